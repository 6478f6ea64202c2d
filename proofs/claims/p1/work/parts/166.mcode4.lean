-- M:TreeAgentModel.rowsOctets(II)I
noncomputable def gM_rowsOctets_5  : Nat → Int32 → Int32 → Int32 → Int32 → MS → Option (Int32 × MS)
  | 0 => fun _ _ _ _ _ => none
  | n + 1 => fun a1 a2 a3 a4 S =>
    if (a1 + a2) ≤ a4 then (
      some (a3, S)
    ) else
    mc (gM_rowOctets a4 S) fun x1 S2 =>
    mc (gM_around x1 S2) fun x3 S4 =>
    sm_let (a3 + x3) fun x5 =>
    sm_let (a4 + (1 : Int32)) fun x6 =>
    (gM_rowsOctets_5 n) a1 a2 x5 x6 S4
set_option maxRecDepth 100000 in
set_option maxHeartbeats 4000000 in
theorem tM_rowsOctets_5 (m : Nat)    (n : Nat) : ∀ (a1 : Int32) (a2 : Int32) (a3 : Int32) (a4 : Int32) (hh : sm_H) (S : MS), Mo hh m S → z2 m (fX12_rowsOctets_5  n m a1 a2 a3 a4 hh) (gM_rowsOctets_5  n a1 a2 a3 a4 S) hh := by
  induction n with
  | zero => intro a1 a2 a3 a4 hh S HH; exact z2_none
  | succ n ih =>
    intro a1 a2 a3 a4 hh S HH
    unfold fX12_rowsOctets_5 gM_rowsOctets_5
    refine z2_ite ?_ ?_
    · exact z2_ret HH
    refine z2_cV (F := fun b => fX12_rowOctets b a4 hh) HH (tM_rowOctets_0 m a4 hh S HH) (fun x1 S2 hh HH => ?_)
    refine z2_cS (tM_around_0 m x1 hh S2 HH) (fun x3 S4 hh HH => ?_)
    refine z2_let (fun x5 => ?_)
    refine z2_let (fun x6 => ?_)
    exact ih a1 a2 x5 x6 hh S4 HH
noncomputable def gM_rowsOctets  (a1 : Int32) (a2 : Int32) (S : MS) : Option (Int32 × MS) :=
  gM_rowsOctets_5 sm_fuel a1 a2 (0 : Int32) a1 S
set_option maxRecDepth 100000 in
set_option maxHeartbeats 4000000 in
theorem tM_rowsOctets_0 (m : Nat)    (a1 : Int32) (a2 : Int32) (hh : sm_H) (S : MS) (HH : Mo hh m S) : z2 m (fX12_rowsOctets  m a1 a2 hh) (gM_rowsOctets  a1 a2 S) hh := by
  unfold fX12_rowsOctets gM_rowsOctets
  exact tM_rowsOctets_5 m sm_fuel a1 a2 (0 : Int32) a1 hh S HH
-- M:TreeAgentModel.bodyOctets(II)I
noncomputable def gM_bodyOctets  (a1 : Int32) (a2 : Int32) (S : MS) : Option (Int32 × MS) :=
  sm_let (S.1 53) fun x1 =>
  mc (gM_numberSize (x1.toInt64) (0 : Int32) S) fun x2 S3 =>
  mc (gM_around x2 S3) fun x4 S5 =>
  sm_let (S5.1 56) fun x6 =>
  mc (gM_numberSize (x6.toInt64) (0 : Int32) S5) fun x7 S8 =>
  mc (gM_around x7 S8) fun x9 S10 =>
  sm_let (S10.1 57) fun x11 =>
  mc (gM_numberSize (x11.toInt64) (0 : Int32) S10) fun x12 S13 =>
  mc (gM_around x12 S13) fun x14 S15 =>
  mc (gM_rowsOctets a1 a2 S15) fun x16 S17 =>
  mc (gM_around x16 S17) fun x18 S19 =>
  some (((x4 + x9) + x14) + x18, S19)
set_option maxRecDepth 100000 in
set_option maxHeartbeats 4000000 in
theorem tM_bodyOctets_0 (m : Nat)    (a1 : Int32) (a2 : Int32) (hh : sm_H) (S : MS) (HH : Mo hh m S) : z2 m (fX12_bodyOctets  m a1 a2 hh) (gM_bodyOctets  a1 a2 S) hh := by
  unfold fX12_bodyOctets gM_bodyOctets
  refine z2_gI HH (by decide) rfl (fun x1 => ?_)
  refine z2_cS (tM_numberSize_0 m (x1.toInt64) (0 : Int32) hh S HH) (fun x2 S3 hh HH => ?_)
  refine z2_cS (tM_around_0 m x2 hh S3 HH) (fun x4 S5 hh HH => ?_)
  refine z2_gI HH (by decide) rfl (fun x6 => ?_)
  refine z2_cS (tM_numberSize_0 m (x6.toInt64) (0 : Int32) hh S5 HH) (fun x7 S8 hh HH => ?_)
  refine z2_cS (tM_around_0 m x7 hh S8 HH) (fun x9 S10 hh HH => ?_)
  refine z2_gI HH (by decide) rfl (fun x11 => ?_)
  refine z2_cS (tM_numberSize_0 m (x11.toInt64) (0 : Int32) hh S10 HH) (fun x12 S13 hh HH => ?_)
  refine z2_cS (tM_around_0 m x12 hh S13 HH) (fun x14 S15 hh HH => ?_)
  refine z2_cV (F := fun b => fX12_rowsOctets b a1 a2 hh) HH (tM_rowsOctets_0 m a1 a2 hh S15 HH) (fun x16 S17 hh HH => ?_)
  refine z2_cS (tM_around_0 m x16 hh S17 HH) (fun x18 S19 hh HH => ?_)
  exact z2_ret HH
-- M:TreeAgentModel.allOctets(II)I
noncomputable def gM_allOctets  (a1 : Int32) (a2 : Int32) (S : MS) : Option (Int32 × MS) :=
  sm_let (S.1 51) fun x1 =>
  mc (gM_around x1 S) fun x2 S3 =>
  mc (gM_bodyOctets a1 a2 S3) fun x4 S5 =>
  mc (gM_around x4 S5) fun x6 S7 =>
  mc (gM_around (((3 : Int32) + x2) + x6) S7) fun x8 S9 =>
  some (x8, S9)
set_option maxRecDepth 100000 in
set_option maxHeartbeats 4000000 in
theorem tM_allOctets_0 (m : Nat)    (a1 : Int32) (a2 : Int32) (hh : sm_H) (S : MS) (HH : Mo hh m S) : z2 m (fX12_allOctets  m a1 a2 hh) (gM_allOctets  a1 a2 S) hh := by
  unfold fX12_allOctets gM_allOctets
  refine z2_gI HH (by decide) rfl (fun x1 => ?_)
  refine z2_cS (tM_around_0 m x1 hh S HH) (fun x2 S3 hh HH => ?_)
  refine z2_cV (F := fun b => fX12_bodyOctets b a1 a2 hh) HH (tM_bodyOctets_0 m a1 a2 hh S3 HH) (fun x4 S5 hh HH => ?_)
  refine z2_cS (tM_around_0 m x4 hh S5 HH) (fun x6 S7 hh HH => ?_)
  refine z2_cS (tM_around_0 m (((3 : Int32) + x2) + x6) hh S7 HH) (fun x8 S9 hh HH => ?_)
  exact z2_ret HH
-- M:TreeAgentModel.put(I)V
noncomputable def gM_put  (a1 : Int32) (S : MS) : Option (Unit × MS) :=
  sm_let (S.1 64) fun x1 =>
  (mWI S 63 3 x1 (vp_nar .byte (a1.toInt8.toInt32))).bind fun S2 =>
  sm_let (S2.1 64) fun x3 =>
  sm_let (sI S2 64 (x3 + (1 : Int32))) fun S4 =>
  some ((), S4)
set_option maxRecDepth 100000 in
set_option maxHeartbeats 4000000 in
theorem tM_put_0 (m : Nat)    (a1 : Int32) (hh : sm_H) (S : MS) (HH : Mo hh m S) : z2 m (fX12_put  m a1 hh) (gM_put  a1 S) hh := by
  unfold fX12_put gM_put
  refine z2_gR HH (by decide) (by decide) ?_
  refine z2_gI HH (by decide) rfl (fun x1 => ?_)
  refine z2_sI HH (fun S2 hh HH => ?_)
  refine z2_gI HH (by decide) rfl (fun x3 => ?_)
  refine z2_pI HH (by decide) rfl (fun S4 hh HH => ?_)
  exact z2_ret HH
-- M:TreeAgentModel.head(II)V
noncomputable def gM_head  (a1 : Int32) (a2 : Int32) (S : MS) : Option (Unit × MS) :=
  mc (gM_put a1 S) fun _ S2 =>
  if a2 < (256 : Int32) then (
    if a2 < (128 : Int32) then (
      mc (gM_put a2 S2) fun _ S4 =>
      some ((), S4)
    ) else
    mc (gM_put (129 : Int32) S2) fun _ S6 =>
    mc (gM_put a2 S6) fun _ S8 =>
    some ((), S8)
  ) else
  mc (gM_put (130 : Int32) S2) fun _ S10 =>
  mc (gM_put (a2 >>> ((8 : Int32) &&& 31)) S10) fun _ S12 =>
  mc (gM_put a2 S12) fun _ S14 =>
  some ((), S14)
set_option maxRecDepth 100000 in
set_option maxHeartbeats 4000000 in
theorem tM_head_0 (m : Nat)    (a1 : Int32) (a2 : Int32) (hh : sm_H) (S : MS) (HH : Mo hh m S) : z2 m (fX12_head  m a1 a2 hh) (gM_head  a1 a2 S) hh := by
  unfold fX12_head gM_head
  refine z2_cV (F := fun b => fX12_put b a1 hh) HH (tM_put_0 m a1 hh S HH) (fun _ S2 hh HH => ?_)
  refine z2_ite ?_ ?_
  · refine z2_ite ?_ ?_
    · refine z2_cV (F := fun b => fX12_put b a2 hh) HH (tM_put_0 m a2 hh S2 HH) (fun _ S4 hh HH => ?_)
      exact z2_ret HH
    refine z2_cV (F := fun b => fX12_put b (129 : Int32) hh) HH (tM_put_0 m (129 : Int32) hh S2 HH) (fun _ S6 hh HH => ?_)
    refine z2_cV (F := fun b => fX12_put b a2 hh) HH (tM_put_0 m a2 hh S6 HH) (fun _ S8 hh HH => ?_)
    exact z2_ret HH
  refine z2_cV (F := fun b => fX12_put b (130 : Int32) hh) HH (tM_put_0 m (130 : Int32) hh S2 HH) (fun _ S10 hh HH => ?_)
  refine z2_cV (F := fun b => fX12_put b (a2 >>> ((8 : Int32) &&& 31)) hh) HH (tM_put_0 m (a2 >>> ((8 : Int32) &&& 31)) hh S10 HH) (fun _ S12 hh HH => ?_)
  refine z2_cV (F := fun b => fX12_put b a2 hh) HH (tM_put_0 m a2 hh S12 HH) (fun _ S14 hh HH => ?_)
  exact z2_ret HH
-- M:TreeAgentModel.writeNumber(IJ)V
noncomputable def gM_writeNumber_30  : Nat → Int64 → Int32 → MS → Option (Unit × MS)
  | 0 => fun _ _ _ => none
  | n + 1 => fun a2 a5 S =>
    if a5 < 0 then (
      some ((), S)
    ) else
    if a5 = (8 : Int32) then (
      mc (gM_put (0 : Int32) S) fun _ S5 =>
      sm_let (a5 + (-1 : Int32)) fun x6 =>
      (gM_writeNumber_30 n) a2 x6 S5
    ) else
    mc (gM_put ((a2 >>> (((8 : Int32) * a5).toInt64 &&& 63)).toInt32) S) fun _ S2 =>
    sm_let (a5 + (-1 : Int32)) fun x3 =>
    (gM_writeNumber_30 n) a2 x3 S2
set_option maxRecDepth 100000 in
set_option maxHeartbeats 4000000 in
theorem tM_writeNumber_30 (m : Nat)    (n : Nat) : ∀ (a2 : Int64) (a5 : Int32) (hh : sm_H) (S : MS), Mo hh m S → z2 m (fX12_writeNumber_30  n m a2 a5 hh) (gM_writeNumber_30  n a2 a5 S) hh := by
  induction n with
  | zero => intro a2 a5 hh S HH; exact z2_none
  | succ n ih =>
    intro a2 a5 hh S HH
    unfold fX12_writeNumber_30 gM_writeNumber_30
    refine z2_ite ?_ ?_
    · exact z2_ret HH
    refine z2_ite ?_ ?_
    · refine z2_cV (F := fun b => fX12_put b (0 : Int32) hh) HH (tM_put_0 m (0 : Int32) hh S HH) (fun _ S5 hh HH => ?_)
      refine z2_let (fun x6 => ?_)
      exact ih a2 x6 hh S5 HH
    refine z2_cV (F := fun b => fX12_put b ((a2 >>> (((8 : Int32) * a5).toInt64 &&& 63)).toInt32) hh) HH (tM_put_0 m ((a2 >>> (((8 : Int32) * a5).toInt64 &&& 63)).toInt32) hh S HH) (fun _ S2 hh HH => ?_)
    refine z2_let (fun x3 => ?_)
    exact ih a2 x3 hh S2 HH
noncomputable def gM_writeNumber_12  (a1 : Int32) (a2 : Int64) (s0 : Int32) (s1 : Int64) (S : MS) : Option (Unit × MS) :=
  mc (gM_numberSize s1 s0 S) fun x1 S2 =>
  mc (gM_head a1 x1 S2) fun _ S4 =>
  sm_let (x1 - (1 : Int32)) fun x5 =>
  gM_writeNumber_30 sm_fuel a2 x5 S4
set_option maxRecDepth 100000 in
set_option maxHeartbeats 4000000 in
theorem tM_writeNumber_12 (m : Nat)    (a1 : Int32) (a2 : Int64) (s0 : Int32) (s1 : Int64) (hh : sm_H) (S : MS) (HH : Mo hh m S) : z2 m (fX12_writeNumber_12  m a1 a2 s0 s1 hh) (gM_writeNumber_12  a1 a2 s0 s1 S) hh := by
  unfold fX12_writeNumber_12 gM_writeNumber_12
  refine z2_cS (tM_numberSize_0 m s1 s0 hh S HH) (fun x1 S2 hh HH => ?_)
  refine z2_cV (F := fun b => fX12_head b a1 x1 hh) HH (tM_head_0 m a1 x1 hh S2 HH) (fun _ S4 hh HH => ?_)
  refine z2_let (fun x5 => ?_)
  exact tM_writeNumber_30 m sm_fuel a2 x5 hh S4 HH
noncomputable def gM_writeNumber  (a1 : Int32) (a2 : Int64) (S : MS) : Option (Unit × MS) :=
  if a1 = (70 : Int32) then (
    gM_writeNumber_12 a1 a2 (1 : Int32) a2 S
  ) else
  gM_writeNumber_12 a1 a2 (0 : Int32) a2 S
set_option maxRecDepth 100000 in
set_option maxHeartbeats 4000000 in
theorem tM_writeNumber_0 (m : Nat)    (a1 : Int32) (a2 : Int64) (hh : sm_H) (S : MS) (HH : Mo hh m S) : z2 m (fX12_writeNumber  m a1 a2 hh) (gM_writeNumber  a1 a2 S) hh := by
  unfold fX12_writeNumber gM_writeNumber
  refine z2_ite ?_ ?_
  · exact tM_writeNumber_12 m  a1 a2 (1 : Int32) a2 hh S HH
  exact tM_writeNumber_12 m  a1 a2 (0 : Int32) a2 hh S HH
-- M:TreeAgentModel.names([JII)V
noncomputable def gM_names_52 (K33 : Nat → Int32 → Int32 → Int32 → MS → Option (Unit × MS)) : Nat → Nat → Int32 → Int32 → Int32 → Int32 → MS → Option (Unit × MS)
  | 0 => fun _ _ _ _ _ _ => none
  | n + 1 => fun a1 a2 a3 a4 a5 S =>
    if a5 < 0 then (
      sm_let (a4 + (1 : Int32)) fun x1 =>
      K33 a1 a2 a3 x1 S
    ) else
    (mRJ S a1 1 (a2 + a4)).bind fun x2 =>
    if a5 ≤ 0 then (
      mc (gM_put ((((x2 >>> (((7 : Int32) * a5).toInt64 &&& 63)).toInt32) &&& (127 : Int32)) ||| (0 : Int32)) S) fun _ S4 =>
      sm_let (a5 + (-1 : Int32)) fun x5 =>
      (gM_names_52 K33 n) a1 a2 a3 a4 x5 S4
    ) else
    mc (gM_put ((((x2 >>> (((7 : Int32) * a5).toInt64 &&& 63)).toInt32) &&& (127 : Int32)) ||| (128 : Int32)) S) fun _ S7 =>
    sm_let (a5 + (-1 : Int32)) fun x8 =>
    (gM_names_52 K33 n) a1 a2 a3 a4 x8 S7
set_option maxRecDepth 100000 in
set_option maxHeartbeats 4000000 in
theorem tM_names_52 (m : Nat) (J33 : Nat → Option Nat → Int32 → Int32 → Int32 → sm_H → Option (Unit × sm_H)) (K33 : Nat → Int32 → Int32 → Int32 → MS → Option (Unit × MS)) (hK33 : ∀ (a1 : Nat) (a2 : Int32) (a3 : Int32) (a4 : Int32) (h : sm_H) (S : MS), Mo h m S → z2 m (J33 m (mR m a1) a2 a3 a4 h) (K33 a1 a2 a3 a4 S) h) (n : Nat) : ∀ (a1 : Nat) (a2 : Int32) (a3 : Int32) (a4 : Int32) (a5 : Int32) (hh : sm_H) (S : MS), Mo hh m S → z2 m (fX12_names_52 J33 n m (mR m a1) a2 a3 a4 a5 hh) (gM_names_52 K33 n a1 a2 a3 a4 a5 S) hh := by
  induction n with
  | zero => intro a1 a2 a3 a4 a5 hh S HH; exact z2_none
  | succ n ih =>
    intro a1 a2 a3 a4 a5 hh S HH
    unfold fX12_names_52 gM_names_52
    refine z2_ite ?_ ?_
    · refine z2_let (fun x1 => ?_)
      exact hK33 a1 a2 a3 x1 hh S HH
    refine z2_aJ HH (fun x2 => ?_)
    refine z2_ite ?_ ?_
    · refine z2_cV (F := fun b => fX12_put b ((((x2 >>> (((7 : Int32) * a5).toInt64 &&& 63)).toInt32) &&& (127 : Int32)) ||| (0 : Int32)) hh) HH (tM_put_0 m ((((x2 >>> (((7 : Int32) * a5).toInt64 &&& 63)).toInt32) &&& (127 : Int32)) ||| (0 : Int32)) hh S HH) (fun _ S4 hh HH => ?_)
      refine z2_let (fun x5 => ?_)
      exact ih a1 a2 a3 a4 x5 hh S4 HH
    refine z2_cV (F := fun b => fX12_put b ((((x2 >>> (((7 : Int32) * a5).toInt64 &&& 63)).toInt32) &&& (127 : Int32)) ||| (128 : Int32)) hh) HH (tM_put_0 m ((((x2 >>> (((7 : Int32) * a5).toInt64 &&& 63)).toInt32) &&& (127 : Int32)) ||| (128 : Int32)) hh S HH) (fun _ S7 hh HH => ?_)
    refine z2_let (fun x8 => ?_)
    exact ih a1 a2 a3 a4 x8 hh S7 HH
noncomputable def gM_names_33  : Nat → Nat → Int32 → Int32 → Int32 → MS → Option (Unit × MS)
  | 0 => fun _ _ _ _ _ => none
  | n + 1 => fun a1 a2 a3 a4 S =>
    if a3 ≤ a4 then (
      some ((), S)
    ) else
    (mRJ S a1 1 (a2 + a4)).bind fun x1 =>
    mc (gM_partSize x1 S) fun x2 S3 =>
    sm_let (x2 - (1 : Int32)) fun x4 =>
    gM_names_52 (gM_names_33 n) sm_fuel a1 a2 a3 a4 x4 S3
set_option maxRecDepth 100000 in
set_option maxHeartbeats 4000000 in
theorem tM_names_33 (m : Nat)    (n : Nat) : ∀ (a1 : Nat) (a2 : Int32) (a3 : Int32) (a4 : Int32) (hh : sm_H) (S : MS), Mo hh m S → z2 m (fX12_names_33  n m (mR m a1) a2 a3 a4 hh) (gM_names_33  n a1 a2 a3 a4 S) hh := by
  induction n with
  | zero => intro a1 a2 a3 a4 hh S HH; exact z2_none
  | succ n ih =>
    intro a1 a2 a3 a4 hh S HH
    unfold fX12_names_33 gM_names_33
    refine z2_ite ?_ ?_
    · exact z2_ret HH
    refine z2_aJ HH (fun x1 => ?_)
    refine z2_cS (tM_partSize_0 m x1 hh S HH) (fun x2 S3 hh HH => ?_)
    refine z2_let (fun x4 => ?_)
    exact tM_names_52 m (fX12_names_33 n) (gM_names_33 n) ih sm_fuel a1 a2 a3 a4 x4 hh S3 HH
noncomputable def gM_names  (a1 : Nat) (a2 : Int32) (a3 : Int32) (S : MS) : Option (Unit × MS) :=
  mc (gM_nameOctets a1 a2 a3 S) fun x1 S2 =>
  mc (gM_head (6 : Int32) x1 S2) fun _ S4 =>
  (mRJ S4 a1 1 a2).bind fun x5 =>
  (mRJ S4 a1 1 (a2 + (1 : Int32))).bind fun x6 =>
  mc (gM_put ((((40 : Int64) * x5) + x6).toInt32) S4) fun _ S8 =>
  gM_names_33 sm_fuel a1 a2 a3 (2 : Int32) S8
set_option maxRecDepth 100000 in
set_option maxHeartbeats 4000000 in
theorem tM_names_0 (m : Nat)    (a1 : Nat) (a2 : Int32) (a3 : Int32) (hh : sm_H) (S : MS) (HH : Mo hh m S) : z2 m (fX12_names  m (mR m a1) a2 a3 hh) (gM_names  a1 a2 a3 S) hh := by
  unfold fX12_names gM_names
  refine z2_cS (tM_nameOctets_0 m a1 a2 a3 hh S HH) (fun x1 S2 hh HH => ?_)
  refine z2_cV (F := fun b => fX12_head b (6 : Int32) x1 hh) HH (tM_head_0 m (6 : Int32) x1 hh S2 HH) (fun _ S4 hh HH => ?_)
  refine z2_aJ HH (fun x5 => ?_)
  refine z2_aJ HH (fun x6 => ?_)
  refine z2_cV (F := fun b => fX12_put b ((((40 : Int64) * x5) + x6).toInt32) hh) HH (tM_put_0 m ((((40 : Int64) * x5) + x6).toInt32) hh S4 HH) (fun _ S8 hh HH => ?_)
  exact tM_names_33 m sm_fuel a1 a2 a3 (2 : Int32) hh S8 HH
-- M:TreeAgentModel.writeValue(I)V
noncomputable def gM_writeValue_121  : Nat → Int32 → Int32 → MS → Option (Unit × MS)
  | 0 => fun _ _ _ => none
  | n + 1 => fun a1 a3 S =>
    if a3 < 0 then (
      some ((), S)
    ) else
    (mRJ S 39 1 a1).bind fun x1 =>
    mc (gM_put ((x1 >>> (((8 : Int32) * a3).toInt64 &&& 63)).toInt32) S) fun _ S3 =>
    sm_let (a3 + (-1 : Int32)) fun x4 =>
    (gM_writeValue_121 n) a1 x4 S3
set_option maxRecDepth 100000 in
set_option maxHeartbeats 4000000 in
theorem tM_writeValue_121 (m : Nat)    (n : Nat) : ∀ (a1 : Int32) (a3 : Int32) (hh : sm_H) (S : MS), Mo hh m S → z2 m (fX12_writeValue_121  n m a1 a3 hh) (gM_writeValue_121  n a1 a3 S) hh := by
  induction n with
  | zero => intro a1 a3 hh S HH; exact z2_none
  | succ n ih =>
    intro a1 a3 hh S HH
    unfold fX12_writeValue_121 gM_writeValue_121
    refine z2_ite ?_ ?_
    · exact z2_ret HH
    refine z2_gR HH (by decide) (by decide) ?_
    refine z2_aJ HH (fun x1 => ?_)
    refine z2_cV (F := fun b => fX12_put b ((x1 >>> (((8 : Int32) * a3).toInt64 &&& 63)).toInt32) hh) HH (tM_put_0 m ((x1 >>> (((8 : Int32) * a3).toInt64 &&& 63)).toInt32) hh S HH) (fun _ S3 hh HH => ?_)
    refine z2_let (fun x4 => ?_)
    exact ih a1 x4 hh S3 HH
noncomputable def gM_writeValue_45  : Nat → Int32 → Int32 → MS → Option (Unit × MS)
  | 0 => fun _ _ _ => none
  | n + 1 => fun a1 a3 S =>
    (mRI S 41 0 a1).bind fun x1 =>
    if x1 ≤ a3 then (
      some ((), S)
    ) else
    (mRI S 40 3 (((40 : Int32) * a1) + a3)).bind fun x2 =>
    mc (gM_put x2 S) fun _ S4 =>
    sm_let (a3 + (1 : Int32)) fun x5 =>
    (gM_writeValue_45 n) a1 x5 S4
set_option maxRecDepth 100000 in
set_option maxHeartbeats 4000000 in
theorem tM_writeValue_45 (m : Nat)    (n : Nat) : ∀ (a1 : Int32) (a3 : Int32) (hh : sm_H) (S : MS), Mo hh m S → z2 m (fX12_writeValue_45  n m a1 a3 hh) (gM_writeValue_45  n a1 a3 S) hh := by
  induction n with
  | zero => intro a1 a3 hh S HH; exact z2_none
  | succ n ih =>
    intro a1 a3 hh S HH
    unfold fX12_writeValue_45 gM_writeValue_45
    refine z2_gR HH (by decide) (by decide) ?_
    refine z2_aI HH (fun x1 => ?_)
    refine z2_ite ?_ ?_
    · exact z2_ret HH
    refine z2_gR HH (by decide) (by decide) ?_
    refine z2_aI HH (fun x2 => ?_)
    refine z2_cV (F := fun b => fX12_put b x2 hh) HH (tM_put_0 m x2 hh S HH) (fun _ S4 hh HH => ?_)
    refine z2_let (fun x5 => ?_)
    exact ih a1 x5 hh S4 HH
noncomputable def gM_writeValue  (a1 : Int32) (S : MS) : Option (Unit × MS) :=
  (mRI S 38 0 a1).bind fun x1 =>
  if x1 = (5 : Int32) then (
    mc (gM_head x1 (0 : Int32) S) fun _ S3 =>
    some ((), S3)
  ) else
  if x1 ≤ (127 : Int32) then (
    if x1 = (4 : Int32) then (
      (mRI S 41 0 a1).bind fun x12 =>
      mc (gM_head (4 : Int32) x12 S) fun _ S14 =>
      gM_writeValue_45 sm_fuel a1 (0 : Int32) S14
    ) else
    if x1 = (6 : Int32) then (
      (mRI S 43 0 a1).bind fun x9 =>
      mc (gM_names 42 ((16 : Int32) * a1) x9 S) fun _ S11 =>
      some ((), S11)
    ) else
    if x1 = (64 : Int32) then (
      mc (gM_head (64 : Int32) (4 : Int32) S) fun _ S8 =>
      gM_writeValue_121 sm_fuel a1 (3 : Int32) S8
    ) else
    (mRJ S 39 1 a1).bind fun x4 =>
    mc (gM_writeNumber x1 x4 S) fun _ S6 =>
    some ((), S6)
  ) else
  mc (gM_head x1 (0 : Int32) S) fun _ S16 =>
  some ((), S16)
set_option maxRecDepth 100000 in
set_option maxHeartbeats 4000000 in
theorem tM_writeValue_0 (m : Nat)    (a1 : Int32) (hh : sm_H) (S : MS) (HH : Mo hh m S) : z2 m (fX12_writeValue  m a1 hh) (gM_writeValue  a1 S) hh := by
  unfold fX12_writeValue gM_writeValue
  refine z2_gR HH (by decide) (by decide) ?_
  refine z2_aI HH (fun x1 => ?_)
  refine z2_ite ?_ ?_
  · refine z2_cV (F := fun b => fX12_head b x1 (0 : Int32) hh) HH (tM_head_0 m x1 (0 : Int32) hh S HH) (fun _ S3 hh HH => ?_)
    exact z2_ret HH
  refine z2_ite ?_ ?_
  · refine z2_ite ?_ ?_
    · refine z2_gR HH (by decide) (by decide) ?_
      refine z2_aI HH (fun x12 => ?_)
      refine z2_cV (F := fun b => fX12_head b (4 : Int32) x12 hh) HH (tM_head_0 m (4 : Int32) x12 hh S HH) (fun _ S14 hh HH => ?_)
      exact tM_writeValue_45 m sm_fuel a1 (0 : Int32) hh S14 HH
    refine z2_ite ?_ ?_
    · refine z2_gR HH (by decide) (by decide) ?_
      refine z2_gR HH (by decide) (by decide) ?_
      refine z2_aI HH (fun x9 => ?_)
      refine z2_cV (F := fun b => fX12_names b (mR m 42) ((16 : Int32) * a1) x9 hh) HH (tM_names_0 m 42 ((16 : Int32) * a1) x9 hh S HH) (fun _ S11 hh HH => ?_)
      exact z2_ret HH
    refine z2_ite ?_ ?_
    · refine z2_cV (F := fun b => fX12_head b (64 : Int32) (4 : Int32) hh) HH (tM_head_0 m (64 : Int32) (4 : Int32) hh S HH) (fun _ S8 hh HH => ?_)
      exact tM_writeValue_121 m sm_fuel a1 (3 : Int32) hh S8 HH
    refine z2_gR HH (by decide) (by decide) ?_
    refine z2_aJ HH (fun x4 => ?_)
    refine z2_cV (F := fun b => fX12_writeNumber b x1 x4 hh) HH (tM_writeNumber_0 m x1 x4 hh S HH) (fun _ S6 hh HH => ?_)
    exact z2_ret HH
  refine z2_cV (F := fun b => fX12_head b x1 (0 : Int32) hh) HH (tM_head_0 m x1 (0 : Int32) hh S HH) (fun _ S16 hh HH => ?_)
  exact z2_ret HH
-- M:TreeAgentModel.write(II)V
noncomputable def gM_write_137  : Nat → Int32 → Int32 → Int32 → MS → Option (Unit × MS)
  | 0 => fun _ _ _ _ => none
  | n + 1 => fun a1 a2 a3 S =>
    if (a1 + a2) ≤ a3 then (
      sm_let (S.1 64) fun x1 =>
      sm_let (sI S 65 x1) fun S2 =>
      some ((), S2)
    ) else
    mc (gM_rowOctets a3 S) fun x3 S4 =>
    mc (gM_head (48 : Int32) x3 S4) fun _ S6 =>
    (mRI S6 37 0 a3).bind fun x7 =>
    mc (gM_names 36 ((16 : Int32) * a3) x7 S6) fun _ S9 =>
    mc (gM_writeValue a3 S9) fun _ S11 =>
    sm_let (a3 + (1 : Int32)) fun x12 =>
    (gM_write_137 n) a1 a2 x12 S11
set_option maxRecDepth 100000 in
set_option maxHeartbeats 4000000 in
theorem tM_write_137 (m : Nat)    (n : Nat) : ∀ (a1 : Int32) (a2 : Int32) (a3 : Int32) (hh : sm_H) (S : MS), Mo hh m S → z2 m (fX12_write_137  n m a1 a2 a3 hh) (gM_write_137  n a1 a2 a3 S) hh := by
  induction n with
  | zero => intro a1 a2 a3 hh S HH; exact z2_none
  | succ n ih =>
    intro a1 a2 a3 hh S HH
    unfold fX12_write_137 gM_write_137
    refine z2_ite ?_ ?_
    · refine z2_gI HH (by decide) rfl (fun x1 => ?_)
      refine z2_pI HH (by decide) rfl (fun S2 hh HH => ?_)
      exact z2_ret HH
    refine z2_cV (F := fun b => fX12_rowOctets b a3 hh) HH (tM_rowOctets_0 m a3 hh S HH) (fun x3 S4 hh HH => ?_)
    refine z2_cV (F := fun b => fX12_head b (48 : Int32) x3 hh) HH (tM_head_0 m (48 : Int32) x3 hh S4 HH) (fun _ S6 hh HH => ?_)
    refine z2_gR HH (by decide) (by decide) ?_
    refine z2_gR HH (by decide) (by decide) ?_
    refine z2_aI HH (fun x7 => ?_)
    refine z2_cV (F := fun b => fX12_names b (mR m 36) ((16 : Int32) * a3) x7 hh) HH (tM_names_0 m 36 ((16 : Int32) * a3) x7 hh S6 HH) (fun _ S9 hh HH => ?_)
    refine z2_cV (F := fun b => fX12_writeValue b a3 hh) HH (tM_writeValue_0 m a3 hh S9 HH) (fun _ S11 hh HH => ?_)
    refine z2_let (fun x12 => ?_)
    exact ih a1 a2 x12 hh S11 HH
noncomputable def gM_write_51  : Nat → Int32 → Int32 → Int32 → MS → Option (Unit × MS)
  | 0 => fun _ _ _ _ => none
  | n + 1 => fun a1 a2 a3 S =>
    sm_let (S.1 51) fun x1 =>
    if x1 ≤ a3 then (
      mc (gM_bodyOctets a1 a2 S) fun x2 S3 =>
      mc (gM_head (162 : Int32) x2 S3) fun _ S5 =>
      sm_let (S5.1 53) fun x6 =>
      mc (gM_writeNumber (2 : Int32) (x6.toInt64) S5) fun _ S8 =>
      sm_let (S8.1 56) fun x9 =>
      mc (gM_writeNumber (2 : Int32) (x9.toInt64) S8) fun _ S11 =>
      sm_let (S11.1 57) fun x12 =>
      mc (gM_writeNumber (2 : Int32) (x12.toInt64) S11) fun _ S14 =>
      mc (gM_rowsOctets a1 a2 S14) fun x15 S16 =>
      mc (gM_head (48 : Int32) x15 S16) fun _ S18 =>
      gM_write_137 sm_fuel a1 a2 a1 S18
    ) else
    sm_let (S.1 50) fun x19 =>
    (mRI S 1 3 (x19 + a3)).bind fun x20 =>
    mc (gM_put x20 S) fun _ S22 =>
    sm_let (a3 + (1 : Int32)) fun x23 =>
    (gM_write_51 n) a1 a2 x23 S22
set_option maxRecDepth 100000 in
set_option maxHeartbeats 4000000 in
theorem tM_write_51 (m : Nat)    (n : Nat) : ∀ (a1 : Int32) (a2 : Int32) (a3 : Int32) (hh : sm_H) (S : MS), Mo hh m S → z2 m (fX12_write_51  n m a1 a2 a3 hh) (gM_write_51  n a1 a2 a3 S) hh := by
  induction n with
  | zero => intro a1 a2 a3 hh S HH; exact z2_none
  | succ n ih =>
    intro a1 a2 a3 hh S HH
    unfold fX12_write_51 gM_write_51
    refine z2_gI HH (by decide) rfl (fun x1 => ?_)
    refine z2_ite ?_ ?_
    · refine z2_cV (F := fun b => fX12_bodyOctets b a1 a2 hh) HH (tM_bodyOctets_0 m a1 a2 hh S HH) (fun x2 S3 hh HH => ?_)
      refine z2_cV (F := fun b => fX12_head b (162 : Int32) x2 hh) HH (tM_head_0 m (162 : Int32) x2 hh S3 HH) (fun _ S5 hh HH => ?_)
      refine z2_gI HH (by decide) rfl (fun x6 => ?_)
      refine z2_cV (F := fun b => fX12_writeNumber b (2 : Int32) (x6.toInt64) hh) HH (tM_writeNumber_0 m (2 : Int32) (x6.toInt64) hh S5 HH) (fun _ S8 hh HH => ?_)
      refine z2_gI HH (by decide) rfl (fun x9 => ?_)
      refine z2_cV (F := fun b => fX12_writeNumber b (2 : Int32) (x9.toInt64) hh) HH (tM_writeNumber_0 m (2 : Int32) (x9.toInt64) hh S8 HH) (fun _ S11 hh HH => ?_)
      refine z2_gI HH (by decide) rfl (fun x12 => ?_)
      refine z2_cV (F := fun b => fX12_writeNumber b (2 : Int32) (x12.toInt64) hh) HH (tM_writeNumber_0 m (2 : Int32) (x12.toInt64) hh S11 HH) (fun _ S14 hh HH => ?_)
      refine z2_cV (F := fun b => fX12_rowsOctets b a1 a2 hh) HH (tM_rowsOctets_0 m a1 a2 hh S14 HH) (fun x15 S16 hh HH => ?_)
      refine z2_cV (F := fun b => fX12_head b (48 : Int32) x15 hh) HH (tM_head_0 m (48 : Int32) x15 hh S16 HH) (fun _ S18 hh HH => ?_)
      exact tM_write_137 m sm_fuel a1 a2 a1 hh S18 HH
    refine z2_gR HH (by decide) (by decide) ?_
    refine z2_gI HH (by decide) rfl (fun x19 => ?_)
    refine z2_aI HH (fun x20 => ?_)
    refine z2_cV (F := fun b => fX12_put b x20 hh) HH (tM_put_0 m x20 hh S HH) (fun _ S22 hh HH => ?_)
    refine z2_let (fun x23 => ?_)
    exact ih a1 a2 x23 hh S22 HH
noncomputable def gM_write  (a1 : Int32) (a2 : Int32) (S : MS) : Option (Unit × MS) :=
  sm_let (sI S 64 (0 : Int32)) fun S1 =>
  sm_let (S1.1 51) fun x2 =>
  mc (gM_around x2 S1) fun x3 S4 =>
  mc (gM_bodyOctets a1 a2 S4) fun x5 S6 =>
  mc (gM_around x5 S6) fun x7 S8 =>
  mc (gM_head (48 : Int32) (((3 : Int32) + x3) + x7) S8) fun _ S10 =>
  sm_let (S10.1 48) fun x11 =>
  mc (gM_writeNumber (2 : Int32) (x11.toInt64) S10) fun _ S13 =>
  sm_let (S13.1 51) fun x14 =>
  mc (gM_head (4 : Int32) x14 S13) fun _ S16 =>
  gM_write_51 sm_fuel a1 a2 (0 : Int32) S16
set_option maxRecDepth 100000 in
set_option maxHeartbeats 4000000 in
theorem tM_write_0 (m : Nat)    (a1 : Int32) (a2 : Int32) (hh : sm_H) (S : MS) (HH : Mo hh m S) : z2 m (fX12_write  m a1 a2 hh) (gM_write  a1 a2 S) hh := by
  unfold fX12_write gM_write
  refine z2_pI HH (by decide) rfl (fun S1 hh HH => ?_)
  refine z2_gI HH (by decide) rfl (fun x2 => ?_)
  refine z2_cS (tM_around_0 m x2 hh S1 HH) (fun x3 S4 hh HH => ?_)
  refine z2_cV (F := fun b => fX12_bodyOctets b a1 a2 hh) HH (tM_bodyOctets_0 m a1 a2 hh S4 HH) (fun x5 S6 hh HH => ?_)
  refine z2_cS (tM_around_0 m x5 hh S6 HH) (fun x7 S8 hh HH => ?_)
  refine z2_cV (F := fun b => fX12_head b (48 : Int32) (((3 : Int32) + x3) + x7) hh) HH (tM_head_0 m (48 : Int32) (((3 : Int32) + x3) + x7) hh S8 HH) (fun _ S10 hh HH => ?_)
  refine z2_gI HH (by decide) rfl (fun x11 => ?_)
  refine z2_cV (F := fun b => fX12_writeNumber b (2 : Int32) (x11.toInt64) hh) HH (tM_writeNumber_0 m (2 : Int32) (x11.toInt64) hh S10 HH) (fun _ S13 hh HH => ?_)
  refine z2_gI HH (by decide) rfl (fun x14 => ?_)
  refine z2_cV (F := fun b => fX12_head b (4 : Int32) x14 hh) HH (tM_head_0 m (4 : Int32) x14 hh S13 HH) (fun _ S16 hh HH => ?_)
  exact tM_write_51 m sm_fuel a1 a2 (0 : Int32) hh S16 HH
-- M:TreeAgentModel.oneMore(I)Z
noncomputable def gM_oneMore  (a1 : Int32) (S : MS) : Option (Int32 × MS) :=
  sm_let (S.1 47) fun x1 =>
  if x1 = (40 : Int32) then (
    some ((0 : Int32), S)
  ) else
  sm_let (S.1 47) fun x2 =>
  mc (gM_next a1 ((20 : Int32) + x2) S) fun _ S4 =>
  sm_let (S4.1 47) fun x5 =>
  mc (gM_allOctets (20 : Int32) (x5 + (1 : Int32)) S4) fun x6 S7 =>
  sm_let (S7.1 5) fun x8 =>
  if x6 ≤ x8 then (
    sm_let (S7.1 47) fun x9 =>
    sm_let (sI S7 47 (x9 + (1 : Int32))) fun S10 =>
    some ((1 : Int32), S10)
  ) else
  some ((0 : Int32), S7)
set_option maxRecDepth 100000 in
set_option maxHeartbeats 4000000 in
theorem tM_oneMore_0 (m : Nat)    (a1 : Int32) (hh : sm_H) (S : MS) (HH : Mo hh m S) : z2 m (fX12_oneMore  m a1 hh) (gM_oneMore  a1 S) hh := by
  unfold fX12_oneMore gM_oneMore
  refine z2_gI HH (by decide) rfl (fun x1 => ?_)
  refine z2_ite ?_ ?_
  · exact z2_ret HH
  refine z2_gI HH (by decide) rfl (fun x2 => ?_)
  refine z2_cV (F := fun b => fX12_next b a1 ((20 : Int32) + x2) hh) HH (tM_next_0 m a1 ((20 : Int32) + x2) hh S HH) (fun _ S4 hh HH => ?_)
  refine z2_gI HH (by decide) rfl (fun x5 => ?_)
  refine z2_cV (F := fun b => fX12_allOctets b (20 : Int32) (x5 + (1 : Int32)) hh) HH (tM_allOctets_0 m (20 : Int32) (x5 + (1 : Int32)) hh S4 HH) (fun x6 S7 hh HH => ?_)
  refine z2_gI HH (by decide) rfl (fun x8 => ?_)
  refine z2_ite ?_ ?_
  · refine z2_gI HH (by decide) rfl (fun x9 => ?_)
    refine z2_pI HH (by decide) rfl (fun S10 hh HH => ?_)
    exact z2_ret HH
  exact z2_ret HH
-- M:TreeAgentModel.many()V
noncomputable def gM_many_184 (K72 : Int32 → Int32 → Int32 → Int32 → MS → Option (Unit × MS)) (a1 : Int32) (a2 : Int32) (a3 : Int32) (a4 : Int32) (a5 : Int32) (S : MS) : Option (Unit × MS) :=
  if a3 = 0 then (
    sm_let (a4 + (1 : Int32)) fun x1 =>
    K72 a1 a2 (0 : Int32) x1 S
  ) else
  if a5 = 0 then (
    sm_let (a4 + (1 : Int32)) fun x3 =>
    K72 a1 a2 (1 : Int32) x3 S
  ) else
  sm_let (a4 + (1 : Int32)) fun x2 =>
  K72 a1 a2 (0 : Int32) x2 S
set_option maxRecDepth 100000 in
set_option maxHeartbeats 4000000 in
theorem tM_many_184 (m : Nat) (J72 : Nat → Int32 → Int32 → Int32 → Int32 → sm_H → Option (Unit × sm_H)) (K72 : Int32 → Int32 → Int32 → Int32 → MS → Option (Unit × MS)) (hK72 : ∀ (a1 : Int32) (a2 : Int32) (a3 : Int32) (a4 : Int32) (h : sm_H) (S : MS), Mo h m S → z2 m (J72 m a1 a2 a3 a4 h) (K72 a1 a2 a3 a4 S) h) (a1 : Int32) (a2 : Int32) (a3 : Int32) (a4 : Int32) (a5 : Int32) (hh : sm_H) (S : MS) (HH : Mo hh m S) : z2 m (fX12_many_184 J72 m a1 a2 a3 a4 a5 hh) (gM_many_184 K72 a1 a2 a3 a4 a5 S) hh := by
  unfold fX12_many_184 gM_many_184
  refine z2_ite ?_ ?_
  · refine z2_let (fun x1 => ?_)
    exact hK72 a1 a2 (0 : Int32) x1 hh S HH
  refine z2_ite ?_ ?_
  · refine z2_let (fun x3 => ?_)
    exact hK72 a1 a2 (1 : Int32) x3 hh S HH
  refine z2_let (fun x2 => ?_)
  exact hK72 a1 a2 (0 : Int32) x2 hh S HH
noncomputable def gM_many_133 (K72 : Int32 → Int32 → Int32 → Int32 → MS → Option (Unit × MS)) (K103 : Int32 → Int32 → Int32 → Int32 → Int32 → Int32 → Int32 → MS → Option (Unit × MS)) (a1 : Int32) (a2 : Int32) (a4 : Int32) (a5 : Int32) (a6 : Int32) (a7 : Int32) (s0 : Int32) (S : MS) : Option (Unit × MS) :=
  mc (gM_oneMore s0 S) fun x1 S2 =>
  if a5 = 0 then (
    sm_let (a7 + (1 : Int32)) fun x3 =>
    K103 a1 a2 x1 a4 (0 : Int32) a6 x3 S2
  ) else
  if x1 = 0 then (
    sm_let (a7 + (1 : Int32)) fun x4 =>
    K103 a1 a2 x1 a4 (0 : Int32) a6 x4 S2
  ) else
  sm_let (S2.1 47) fun x5 =>
  (mRI S2 38 0 (((20 : Int32) + x5) - (1 : Int32))).bind fun x6 =>
  if x6 = (130 : Int32) then (
    sm_let (a7 + (1 : Int32)) fun x8 =>
    K103 a1 a2 x1 a4 (1 : Int32) a6 x8 S2
  ) else
  sm_let (a7 + (1 : Int32)) fun x7 =>
  K103 a1 a2 x1 a4 (0 : Int32) a6 x7 S2
set_option maxRecDepth 100000 in
set_option maxHeartbeats 4000000 in
theorem tM_many_133 (m : Nat) (J72 : Nat → Int32 → Int32 → Int32 → Int32 → sm_H → Option (Unit × sm_H)) (J103 : Nat → Int32 → Int32 → Int32 → Int32 → Int32 → Int32 → Int32 → sm_H → Option (Unit × sm_H)) (K72 : Int32 → Int32 → Int32 → Int32 → MS → Option (Unit × MS)) (K103 : Int32 → Int32 → Int32 → Int32 → Int32 → Int32 → Int32 → MS → Option (Unit × MS)) (hK72 : ∀ (a1 : Int32) (a2 : Int32) (a3 : Int32) (a4 : Int32) (h : sm_H) (S : MS), Mo h m S → z2 m (J72 m a1 a2 a3 a4 h) (K72 a1 a2 a3 a4 S) h) (hK103 : ∀ (a1 : Int32) (a2 : Int32) (a3 : Int32) (a4 : Int32) (a5 : Int32) (a6 : Int32) (a7 : Int32) (h : sm_H) (S : MS), Mo h m S → z2 m (J103 m a1 a2 a3 a4 a5 a6 a7 h) (K103 a1 a2 a3 a4 a5 a6 a7 S) h) (a1 : Int32) (a2 : Int32) (a4 : Int32) (a5 : Int32) (a6 : Int32) (a7 : Int32) (s0 : Int32) (hh : sm_H) (S : MS) (HH : Mo hh m S) : z2 m (fX12_many_133 J72 J103 m a1 a2 a4 a5 a6 a7 s0 hh) (gM_many_133 K72 K103 a1 a2 a4 a5 a6 a7 s0 S) hh := by
  unfold fX12_many_133 gM_many_133
  refine z2_cV (F := fun b => fX12_oneMore b s0 hh) HH (tM_oneMore_0 m s0 hh S HH) (fun x1 S2 hh HH => ?_)
  refine z2_ite ?_ ?_
  · refine z2_let (fun x3 => ?_)
    exact hK103 a1 a2 x1 a4 (0 : Int32) a6 x3 hh S2 HH
  refine z2_ite ?_ ?_
  · refine z2_let (fun x4 => ?_)
    exact hK103 a1 a2 x1 a4 (0 : Int32) a6 x4 hh S2 HH
  refine z2_gR HH (by decide) (by decide) ?_
  refine z2_gI HH (by decide) rfl (fun x5 => ?_)
  refine z2_aI HH (fun x6 => ?_)
  refine z2_ite ?_ ?_
  · refine z2_let (fun x8 => ?_)
    exact hK103 a1 a2 x1 a4 (1 : Int32) a6 x8 hh S2 HH
  refine z2_let (fun x7 => ?_)
  exact hK103 a1 a2 x1 a4 (0 : Int32) a6 x7 hh S2 HH
noncomputable def gM_many_103 (K72 : Int32 → Int32 → Int32 → Int32 → MS → Option (Unit × MS)) : Nat → Int32 → Int32 → Int32 → Int32 → Int32 → Int32 → Int32 → MS → Option (Unit × MS)
  | 0 => fun _ _ _ _ _ _ _ _ => none
  | n + 1 => fun a1 a2 a3 a4 a5 a6 a7 S =>
    if a2 ≤ a7 then (
      gM_many_184 K72 a1 a2 a3 a4 a5 S
    ) else
    if a3 = 0 then (
      gM_many_184 K72 a1 a2 a3 a4 a5 S
    ) else
    if a4 = 0 then (
      gM_many_133 K72 (gM_many_103 K72 n) a1 a2 a4 a5 a6 a7 (a1 + a7) S
    ) else
    gM_many_133 K72 (gM_many_103 K72 n) a1 a2 a4 a5 a6 a7 (((20 : Int32) + a6) + a7) S
set_option maxRecDepth 100000 in
set_option maxHeartbeats 4000000 in
theorem tM_many_103 (m : Nat) (J72 : Nat → Int32 → Int32 → Int32 → Int32 → sm_H → Option (Unit × sm_H)) (K72 : Int32 → Int32 → Int32 → Int32 → MS → Option (Unit × MS)) (hK72 : ∀ (a1 : Int32) (a2 : Int32) (a3 : Int32) (a4 : Int32) (h : sm_H) (S : MS), Mo h m S → z2 m (J72 m a1 a2 a3 a4 h) (K72 a1 a2 a3 a4 S) h) (n : Nat) : ∀ (a1 : Int32) (a2 : Int32) (a3 : Int32) (a4 : Int32) (a5 : Int32) (a6 : Int32) (a7 : Int32) (hh : sm_H) (S : MS), Mo hh m S → z2 m (fX12_many_103 J72 n m a1 a2 a3 a4 a5 a6 a7 hh) (gM_many_103 K72 n a1 a2 a3 a4 a5 a6 a7 S) hh := by
  induction n with
  | zero => intro a1 a2 a3 a4 a5 a6 a7 hh S HH; exact z2_none
  | succ n ih =>
    intro a1 a2 a3 a4 a5 a6 a7 hh S HH
    unfold fX12_many_103 gM_many_103
    refine z2_ite ?_ ?_
    · exact tM_many_184 m J72 K72 hK72 a1 a2 a3 a4 a5 hh S HH
    refine z2_ite ?_ ?_
    · exact tM_many_184 m J72 K72 hK72 a1 a2 a3 a4 a5 hh S HH
    refine z2_ite ?_ ?_
    · exact tM_many_133 m J72 (fX12_many_103 J72 n) K72 (gM_many_103 K72 n) hK72 ih a1 a2 a4 a5 a6 a7 (a1 + a7) hh S HH
    exact tM_many_133 m J72 (fX12_many_103 J72 n) K72 (gM_many_103 K72 n) hK72 ih a1 a2 a4 a5 a6 a7 (((20 : Int32) + a6) + a7) hh S HH
noncomputable def gM_many_72  : Nat → Int32 → Int32 → Int32 → Int32 → MS → Option (Unit × MS)
  | 0 => fun _ _ _ _ _ => none
  | n + 1 => fun a1 a2 a3 a4 S =>
    sm_let (S.1 55) fun x1 =>
    if x1 ≤ a4 then (
      some ((), S)
    ) else
    if a3 = 0 then (
      some ((), S)
    ) else
    if a2 ≤ 0 then (
      some ((), S)
    ) else
    sm_let (S.1 47) fun x2 =>
    sm_let (x2 - a2) fun x3 =>
    gM_many_103 (gM_many_72 n) sm_fuel a1 a2 a3 a4 (1 : Int32) x3 (0 : Int32) S
set_option maxRecDepth 100000 in
set_option maxHeartbeats 4000000 in
theorem tM_many_72 (m : Nat)    (n : Nat) : ∀ (a1 : Int32) (a2 : Int32) (a3 : Int32) (a4 : Int32) (hh : sm_H) (S : MS), Mo hh m S → z2 m (fX12_many_72  n m a1 a2 a3 a4 hh) (gM_many_72  n a1 a2 a3 a4 S) hh := by
  induction n with
  | zero => intro a1 a2 a3 a4 hh S HH; exact z2_none
  | succ n ih =>
    intro a1 a2 a3 a4 hh S HH
    unfold fX12_many_72 gM_many_72
    refine z2_gI HH (by decide) rfl (fun x1 => ?_)
    refine z2_ite ?_ ?_
    · exact z2_ret HH
    refine z2_ite ?_ ?_
    · exact z2_ret HH
    refine z2_ite ?_ ?_
    · exact z2_ret HH
    refine z2_gI HH (by decide) rfl (fun x2 => ?_)
    refine z2_let (fun x3 => ?_)
    exact tM_many_103 m (fX12_many_72 n) (gM_many_72 n) ih sm_fuel a1 a2 a3 a4 (1 : Int32) x3 (0 : Int32) hh S HH
noncomputable def gM_many_46  : Nat → Int32 → Int32 → Int32 → Int32 → MS → Option (Unit × MS)
  | 0 => fun _ _ _ _ _ => none
  | n + 1 => fun a1 a2 a3 a4 S =>
    if a1 ≤ a4 then (
      gM_many_72 sm_fuel a1 a2 a3 (0 : Int32) S
    ) else
    if a3 = 0 then (
      gM_many_72 sm_fuel a1 a2 a3 (0 : Int32) S
    ) else
    mc (gM_oneMore a4 S) fun x1 S2 =>
    sm_let (a4 + (1 : Int32)) fun x3 =>
    (gM_many_46 n) a1 a2 x1 x3 S2
set_option maxRecDepth 100000 in
set_option maxHeartbeats 4000000 in
theorem tM_many_46 (m : Nat)    (n : Nat) : ∀ (a1 : Int32) (a2 : Int32) (a3 : Int32) (a4 : Int32) (hh : sm_H) (S : MS), Mo hh m S → z2 m (fX12_many_46  n m a1 a2 a3 a4 hh) (gM_many_46  n a1 a2 a3 a4 S) hh := by
  induction n with
  | zero => intro a1 a2 a3 a4 hh S HH; exact z2_none
  | succ n ih =>
    intro a1 a2 a3 a4 hh S HH
    unfold fX12_many_46 gM_many_46
    refine z2_ite ?_ ?_
    · exact tM_many_72 m sm_fuel a1 a2 a3 (0 : Int32) hh S HH
    refine z2_ite ?_ ?_
    · exact tM_many_72 m sm_fuel a1 a2 a3 (0 : Int32) hh S HH
    refine z2_cV (F := fun b => fX12_oneMore b a4 hh) HH (tM_oneMore_0 m a4 hh S HH) (fun x1 S2 hh HH => ?_)
    refine z2_let (fun x3 => ?_)
    exact ih a1 a2 x1 x3 hh S2 HH
noncomputable def gM_many_33  (s0 : Int32) (S : MS) : Option (Unit × MS) :=
  sm_let (S.1 46) fun x1 =>
  sm_let (x1 - s0) fun x2 =>
  gM_many_46 sm_fuel s0 x2 (1 : Int32) (0 : Int32) S
set_option maxRecDepth 100000 in
set_option maxHeartbeats 4000000 in
theorem tM_many_33 (m : Nat)    (s0 : Int32) (hh : sm_H) (S : MS) (HH : Mo hh m S) : z2 m (fX12_many_33  m s0 hh) (gM_many_33  s0 S) hh := by
  unfold fX12_many_33 gM_many_33
  refine z2_gI HH (by decide) rfl (fun x1 => ?_)
  refine z2_let (fun x2 => ?_)
  exact tM_many_46 m sm_fuel s0 x2 (1 : Int32) (0 : Int32) hh S HH
noncomputable def gM_many   (S : MS) : Option (Unit × MS) :=
  sm_let (S.1 54) fun x1 =>
  if 0 ≤ x1 then (
    sm_let (S.1 54) fun x2 =>
    sm_let (S.1 46) fun x3 =>
    if x2 ≤ x3 then (
      sm_let (S.1 54) fun x4 =>
      gM_many_33 x4 S
    ) else
    sm_let (S.1 46) fun x5 =>
    gM_many_33 x5 S
  ) else
  gM_many_33 (0 : Int32) S
set_option maxRecDepth 100000 in
set_option maxHeartbeats 4000000 in
theorem tM_many_0 (m : Nat)     (hh : sm_H) (S : MS) (HH : Mo hh m S) : z2 m (fX12_many  m hh) (gM_many  S) hh := by
  unfold fX12_many gM_many
  refine z2_gI HH (by decide) rfl (fun x1 => ?_)
  refine z2_ite ?_ ?_
  · refine z2_gI HH (by decide) rfl (fun x2 => ?_)
    refine z2_gI HH (by decide) rfl (fun x3 => ?_)
    refine z2_ite ?_ ?_
    · refine z2_gI HH (by decide) rfl (fun x4 => ?_)
      exact tM_many_33 m  x4 hh S HH
    refine z2_gI HH (by decide) rfl (fun x5 => ?_)
    exact tM_many_33 m  x5 hh S HH
  exact tM_many_33 m  (0 : Int32) hh S HH
-- M:TreeAgentModel.fail(II)V
noncomputable def gM_fail_48  (a2 : Int32) (S : MS) : Option (Unit × MS) :=
  sm_let (sI S 56 (2 : Int32)) fun S1 =>
  sm_let (sI S1 57 (a2 + (1 : Int32))) fun S2 =>
  some ((), S2)
set_option maxRecDepth 100000 in
set_option maxHeartbeats 4000000 in
theorem tM_fail_48 (m : Nat)    (a2 : Int32) (hh : sm_H) (S : MS) (HH : Mo hh m S) : z2 m (fX12_fail_48  m a2 (some m) hh) (gM_fail_48  a2 S) hh := by
  unfold fX12_fail_48 gM_fail_48
  refine z2_pI HH (by decide) rfl (fun S1 hh HH => ?_)
  refine z2_pI HH (by decide) rfl (fun S2 hh HH => ?_)
  exact z2_ret HH
noncomputable def gM_fail  (a1 : Int32) (a2 : Int32) (S : MS) : Option (Unit × MS) :=
  sm_let (S.1 56) fun x1 =>
  if x1 = 0 then (
    sm_let (S.1 48) fun x2 =>
    if x2 = (1 : Int32) then (
      sm_let (sI S 56 a1) fun S7 =>
      sm_let (sI S7 57 (a2 + (1 : Int32))) fun S8 =>
      some ((), S8)
    ) else
    if a1 = (13 : Int32) then (
      sm_let (sI S 56 (5 : Int32)) fun S5 =>
      sm_let (sI S5 57 (a2 + (1 : Int32))) fun S6 =>
      some ((), S6)
    ) else
    if a1 = (6 : Int32) then (
      gM_fail_48 a2 S
    ) else
    if a1 = (17 : Int32) then (
      gM_fail_48 a2 S
    ) else
    if a1 = (18 : Int32) then (
      gM_fail_48 a2 S
    ) else
    sm_let (sI S 56 (3 : Int32)) fun S3 =>
    sm_let (sI S3 57 (a2 + (1 : Int32))) fun S4 =>
    some ((), S4)
  ) else
  some ((), S)
set_option maxRecDepth 100000 in
set_option maxHeartbeats 4000000 in
theorem tM_fail_0 (m : Nat)    (a1 : Int32) (a2 : Int32) (hh : sm_H) (S : MS) (HH : Mo hh m S) : z2 m (fX12_fail  m a1 a2 hh) (gM_fail  a1 a2 S) hh := by
  unfold fX12_fail gM_fail
  refine z2_gI HH (by decide) rfl (fun x1 => ?_)
  refine z2_ite ?_ ?_
  · refine z2_gI HH (by decide) rfl (fun x2 => ?_)
    refine z2_ite ?_ ?_
    · refine z2_pI HH (by decide) rfl (fun S7 hh HH => ?_)
      refine z2_pI HH (by decide) rfl (fun S8 hh HH => ?_)
      exact z2_ret HH
    refine z2_ite ?_ ?_
    · refine z2_pI HH (by decide) rfl (fun S5 hh HH => ?_)
      refine z2_pI HH (by decide) rfl (fun S6 hh HH => ?_)
      exact z2_ret HH
    refine z2_ite ?_ ?_
    · exact tM_fail_48 m  a2 hh S HH
    refine z2_ite ?_ ?_
    · exact tM_fail_48 m  a2 hh S HH
    refine z2_ite ?_ ?_
    · exact tM_fail_48 m  a2 hh S HH
    refine z2_pI HH (by decide) rfl (fun S3 hh HH => ?_)
    refine z2_pI HH (by decide) rfl (fun S4 hh HH => ?_)
    exact z2_ret HH
  exact z2_ret HH
-- M:TreeAgentModel.isMaking(IIJ)Z
noncomputable def gM_isMaking  (a1 : Int32) (a2 : Int32) (a3 : Int64) (S : MS) : Option (Int32 × MS) :=
  (mRI S 37 0 a1).bind fun x1 =>
  mc (gM_objectOf 36 ((16 : Int32) * a1) x1 (2 : Int32) S) fun x2 S3 =>
  if x2 < 0 then (
    some ((0 : Int32), S3)
  ) else
  (mRI S3 16 2 x2).bind fun x4 =>
  if x4 = 0 then (
    some ((0 : Int32), S3)
  ) else
  (mRI S3 15 0 x2).bind fun x5 =>
  if x5 = a2 then (
    (mRI S3 37 0 a1).bind fun x6 =>
    (mRI S3 10 0 x2).bind fun x7 =>
    if x6 = (x7 + (1 : Int32)) then (
      (mRI S3 10 0 x2).bind fun x8 =>
      (mRJ S3 36 1 (((16 : Int32) * a1) + x8)).bind fun x9 =>
      if (lg_cmp x9 a3) = 0 then (
        (mRI S3 38 0 a1).bind fun x10 =>
        if x10 = (2 : Int32) then (
          (mRJ S3 39 1 a1).bind fun x11 =>
          mc (gM_in x11 (4 : Int64) (5 : Int64) S3) fun x12 S13 =>
          if x12 = 0 then (
            some ((0 : Int32), S13)
          ) else
          some ((1 : Int32), S13)
        ) else
        some ((0 : Int32), S3)
      ) else
      some ((0 : Int32), S3)
    ) else
    some ((0 : Int32), S3)
  ) else
  some ((0 : Int32), S3)
set_option maxRecDepth 100000 in
set_option maxHeartbeats 4000000 in
theorem tM_isMaking_0 (m : Nat)    (a1 : Int32) (a2 : Int32) (a3 : Int64) (hh : sm_H) (S : MS) (HH : Mo hh m S) : z2 m (fX12_isMaking  m a1 a2 a3 hh) (gM_isMaking  a1 a2 a3 S) hh := by
  unfold fX12_isMaking gM_isMaking
  refine z2_gR HH (by decide) (by decide) ?_
  refine z2_gR HH (by decide) (by decide) ?_
  refine z2_aI HH (fun x1 => ?_)
  refine z2_cV (F := fun b => fX12_objectOf b (mR m 36) ((16 : Int32) * a1) x1 (2 : Int32) hh) HH (tM_objectOf_0 m 36 ((16 : Int32) * a1) x1 (2 : Int32) hh S HH) (fun x2 S3 hh HH => ?_)
  refine z2_ite ?_ ?_
  · exact z2_ret HH
  refine z2_gR HH (by decide) (by decide) ?_
  refine z2_aI HH (fun x4 => ?_)
  refine z2_ite ?_ ?_
  · exact z2_ret HH
  refine z2_gR HH (by decide) (by decide) ?_
  refine z2_aI HH (fun x5 => ?_)
  refine z2_ite ?_ ?_
  · refine z2_gR HH (by decide) (by decide) ?_
    refine z2_aI HH (fun x6 => ?_)
    refine z2_gR HH (by decide) (by decide) ?_
    refine z2_aI HH (fun x7 => ?_)
    refine z2_ite ?_ ?_
    · refine z2_gR HH (by decide) (by decide) ?_
      refine z2_gR HH (by decide) (by decide) ?_
      refine z2_aI HH (fun x8 => ?_)
      refine z2_aJ HH (fun x9 => ?_)
      refine z2_ite ?_ ?_
      · refine z2_gR HH (by decide) (by decide) ?_
        refine z2_aI HH (fun x10 => ?_)
        refine z2_ite ?_ ?_
        · refine z2_gR HH (by decide) (by decide) ?_
          refine z2_aJ HH (fun x11 => ?_)
          refine z2_cS (tM_in_0 m x11 (4 : Int64) (5 : Int64) hh S3 HH) (fun x12 S13 hh HH => ?_)
          refine z2_ite ?_ ?_
          · exact z2_ret HH
          exact z2_ret HH
        exact z2_ret HH
      exact z2_ret HH
    exact z2_ret HH
  exact z2_ret HH
-- M:TreeAgentModel.checkPlace(II)V
noncomputable def gM_checkPlace_379  (a1 : Int32) (a9 : Int32) (a10 : Int64) (S : MS) : Option (Unit × MS) :=
  mc (gM_in a10 (4 : Int64) (5 : Int64) S) fun x1 S2 =>
  if x1 = 0 then (
    some ((), S2)
  ) else
  if a9 < (16 : Int32) then (
    some ((), S2)
  ) else
  mc (gM_fail (13 : Int32) a1 S2) fun _ S4 =>
  some ((), S4)
set_option maxRecDepth 100000 in
set_option maxHeartbeats 4000000 in
theorem tM_checkPlace_379 (m : Nat)    (a1 : Int32) (a9 : Int32) (a10 : Int64) (hh : sm_H) (S : MS) (HH : Mo hh m S) : z2 m (fX12_checkPlace_379  m a1 a9 a10 hh) (gM_checkPlace_379  a1 a9 a10 S) hh := by
  unfold fX12_checkPlace_379 gM_checkPlace_379
  refine z2_cS (tM_in_0 m a10 (4 : Int64) (5 : Int64) hh S HH) (fun x1 S2 hh HH => ?_)
  refine z2_ite ?_ ?_
  · exact z2_ret HH
  refine z2_ite ?_ ?_
  · exact z2_ret HH
  refine z2_cV (F := fun b => fX12_fail b (13 : Int32) a1 hh) HH (tM_fail_0 m (13 : Int32) a1 hh S2 HH) (fun _ S4 hh HH => ?_)
  exact z2_ret HH
noncomputable def gM_checkPlace_345  (a1 : Int32) (a6 : Int32) (a8 : Int32) (a9 : Int32) (a10 : Int64) (S : MS) : Option (Unit × MS) :=
  mc (gM_in a10 (4 : Int64) (5 : Int64) S) fun x1 S2 =>
  if x1 = 0 then (
    gM_checkPlace_379 a1 a9 a10 S2
  ) else
  if a6 = 0 then (
    if a8 = 0 then (
      gM_checkPlace_379 a1 a9 a10 S2
    ) else
    mc (gM_fail (12 : Int32) a1 S2) fun _ S6 =>
    some ((), S6)
  ) else
  mc (gM_fail (12 : Int32) a1 S2) fun _ S4 =>
  some ((), S4)
set_option maxRecDepth 100000 in
set_option maxHeartbeats 4000000 in
theorem tM_checkPlace_345 (m : Nat)    (a1 : Int32) (a6 : Int32) (a8 : Int32) (a9 : Int32) (a10 : Int64) (hh : sm_H) (S : MS) (HH : Mo hh m S) : z2 m (fX12_checkPlace_345  m a1 a6 a8 a9 a10 hh) (gM_checkPlace_345  a1 a6 a8 a9 a10 S) hh := by
  unfold fX12_checkPlace_345 gM_checkPlace_345
  refine z2_cS (tM_in_0 m a10 (4 : Int64) (5 : Int64) hh S HH) (fun x1 S2 hh HH => ?_)
  refine z2_ite ?_ ?_
  · exact tM_checkPlace_379 m  a1 a9 a10 hh S2 HH
  refine z2_ite ?_ ?_
  · refine z2_ite ?_ ?_
    · exact tM_checkPlace_379 m  a1 a9 a10 hh S2 HH
    refine z2_cV (F := fun b => fX12_fail b (12 : Int32) a1 hh) HH (tM_fail_0 m (12 : Int32) a1 hh S2 HH) (fun _ S6 hh HH => ?_)
    exact z2_ret HH
  refine z2_cV (F := fun b => fX12_fail b (12 : Int32) a1 hh) HH (tM_fail_0 m (12 : Int32) a1 hh S2 HH) (fun _ S4 hh HH => ?_)
  exact z2_ret HH
noncomputable def gM_checkPlace_194  : Nat → Int32 → Int32 → Int32 → Int32 → Int32 → Int32 → Int32 → Int32 → MS → Option (Unit × MS)
  | 0 => fun _ _ _ _ _ _ _ _ _ => none
  | n + 1 => fun a1 a2 a5 a6 a7 a8 a9 a10 S =>
    if a1 ≤ a10 then (
      (mRI S 16 2 a2).bind fun x1 =>
      if x1 = 0 then (
        if a6 = 0 then (
          if a7 = 0 then (
            mc (gM_fail (18 : Int32) a1 S) fun _ S6 =>
            some ((), S6)
          ) else
          some ((), S)
        ) else
        some ((), S)
      ) else
      (mRJ S 39 1 a1).bind fun x2 =>
      if 0 ≤ (lg_cmp x2 (3 : Int64)) then (
        gM_checkPlace_345 a1 a6 a8 a9 x2 S
      ) else
      if a6 = 0 then (
        mc (gM_fail (12 : Int32) a1 S) fun _ S4 =>
        some ((), S4)
      ) else
      gM_checkPlace_345 a1 a6 a8 a9 x2 S
    ) else
    (mRI S 37 0 a10).bind fun x7 =>
    mc (gM_objectOf 36 ((16 : Int32) * a10) x7 (2 : Int32) S) fun x8 S9 =>
    if x8 < 0 then (
      sm_let (a9 + (0 : Int32)) fun x10 =>
      sm_let (a10 + (1 : Int32)) fun x11 =>
      (gM_checkPlace_194 n) a1 a2 a5 a6 a7 a8 x10 x11 S9
    ) else
    (mRI S9 16 2 x8).bind fun x12 =>
    if x12 = 0 then (
      sm_let (a9 + (0 : Int32)) fun x13 =>
      sm_let (a10 + (1 : Int32)) fun x14 =>
      (gM_checkPlace_194 n) a1 a2 a5 a6 a7 a8 x13 x14 S9
    ) else
    (mRI S9 15 0 x8).bind fun x15 =>
    if x15 = a5 then (
      (mRI S9 38 0 a10).bind fun x18 =>
      if x18 = (2 : Int32) then (
        (mRJ S9 39 1 a10).bind fun x21 =>
        mc (gM_in x21 (4 : Int64) (5 : Int64) S9) fun x22 S23 =>
        if x22 = 0 then (
          sm_let (a9 + (0 : Int32)) fun x24 =>
          sm_let (a10 + (1 : Int32)) fun x25 =>
          (gM_checkPlace_194 n) a1 a2 a5 a6 a7 a8 x24 x25 S23
        ) else
        sm_let (a9 + (1 : Int32)) fun x26 =>
        sm_let (a10 + (1 : Int32)) fun x27 =>
        (gM_checkPlace_194 n) a1 a2 a5 a6 a7 a8 x26 x27 S23
      ) else
      sm_let (a9 + (0 : Int32)) fun x19 =>
      sm_let (a10 + (1 : Int32)) fun x20 =>
      (gM_checkPlace_194 n) a1 a2 a5 a6 a7 a8 x19 x20 S9
    ) else
    sm_let (a9 + (0 : Int32)) fun x16 =>
    sm_let (a10 + (1 : Int32)) fun x17 =>
    (gM_checkPlace_194 n) a1 a2 a5 a6 a7 a8 x16 x17 S9
set_option maxRecDepth 100000 in
set_option maxHeartbeats 4000000 in
theorem tM_checkPlace_194 (m : Nat)    (n : Nat) : ∀ (a1 : Int32) (a2 : Int32) (a5 : Int32) (a6 : Int32) (a7 : Int32) (a8 : Int32) (a9 : Int32) (a10 : Int32) (hh : sm_H) (S : MS), Mo hh m S → z2 m (fX12_checkPlace_194  n m a1 a2 a5 a6 a7 a8 a9 a10 hh) (gM_checkPlace_194  n a1 a2 a5 a6 a7 a8 a9 a10 S) hh := by
  induction n with
  | zero => intro a1 a2 a5 a6 a7 a8 a9 a10 hh S HH; exact z2_none
  | succ n ih =>
    intro a1 a2 a5 a6 a7 a8 a9 a10 hh S HH
    unfold fX12_checkPlace_194 gM_checkPlace_194
    refine z2_ite ?_ ?_
    · refine z2_gR HH (by decide) (by decide) ?_
      refine z2_aI HH (fun x1 => ?_)
      refine z2_ite ?_ ?_
      · refine z2_ite ?_ ?_
        · refine z2_ite ?_ ?_
          · refine z2_cV (F := fun b => fX12_fail b (18 : Int32) a1 hh) HH (tM_fail_0 m (18 : Int32) a1 hh S HH) (fun _ S6 hh HH => ?_)
            exact z2_ret HH
          exact z2_ret HH
        exact z2_ret HH
      refine z2_gR HH (by decide) (by decide) ?_
      refine z2_aJ HH (fun x2 => ?_)
      refine z2_ite ?_ ?_
      · exact tM_checkPlace_345 m  a1 a6 a8 a9 x2 hh S HH
      refine z2_ite ?_ ?_
      · refine z2_cV (F := fun b => fX12_fail b (12 : Int32) a1 hh) HH (tM_fail_0 m (12 : Int32) a1 hh S HH) (fun _ S4 hh HH => ?_)
        exact z2_ret HH
      exact tM_checkPlace_345 m  a1 a6 a8 a9 x2 hh S HH
    refine z2_gR HH (by decide) (by decide) ?_
    refine z2_gR HH (by decide) (by decide) ?_
    refine z2_aI HH (fun x7 => ?_)
    refine z2_cV (F := fun b => fX12_objectOf b (mR m 36) ((16 : Int32) * a10) x7 (2 : Int32) hh) HH (tM_objectOf_0 m 36 ((16 : Int32) * a10) x7 (2 : Int32) hh S HH) (fun x8 S9 hh HH => ?_)
    refine z2_ite ?_ ?_
    · refine z2_let (fun x10 => ?_)
      refine z2_let (fun x11 => ?_)
      exact ih a1 a2 a5 a6 a7 a8 x10 x11 hh S9 HH
    refine z2_gR HH (by decide) (by decide) ?_
    refine z2_aI HH (fun x12 => ?_)
    refine z2_ite ?_ ?_
    · refine z2_let (fun x13 => ?_)
      refine z2_let (fun x14 => ?_)
      exact ih a1 a2 a5 a6 a7 a8 x13 x14 hh S9 HH
    refine z2_gR HH (by decide) (by decide) ?_
    refine z2_aI HH (fun x15 => ?_)
    refine z2_ite ?_ ?_
    · refine z2_gR HH (by decide) (by decide) ?_
      refine z2_aI HH (fun x18 => ?_)
      refine z2_ite ?_ ?_
      · refine z2_gR HH (by decide) (by decide) ?_
        refine z2_aJ HH (fun x21 => ?_)
        refine z2_cS (tM_in_0 m x21 (4 : Int64) (5 : Int64) hh S9 HH) (fun x22 S23 hh HH => ?_)
        refine z2_ite ?_ ?_
        · refine z2_let (fun x24 => ?_)
          refine z2_let (fun x25 => ?_)
          exact ih a1 a2 a5 a6 a7 a8 x24 x25 hh S23 HH
        refine z2_let (fun x26 => ?_)
        refine z2_let (fun x27 => ?_)
        exact ih a1 a2 a5 a6 a7 a8 x26 x27 hh S23 HH
      refine z2_let (fun x19 => ?_)
      refine z2_let (fun x20 => ?_)
      exact ih a1 a2 a5 a6 a7 a8 x19 x20 hh S9 HH
    refine z2_let (fun x16 => ?_)
    refine z2_let (fun x17 => ?_)
    exact ih a1 a2 a5 a6 a7 a8 x16 x17 hh S9 HH
noncomputable def gM_checkPlace_153 (K122 : Int32 → Int32 → Int64 → Int32 → Int32 → Int32 → Int32 → Int32 → Int32 → MS → Option (Unit × MS)) (a1 : Int32) (a2 : Int32) (a3 : Int64) (a5 : Int32) (a6 : Int32) (a8 : Int32) (a9 : Int32) (a10 : Int32) (s0 : Int32) (S : MS) : Option (Unit × MS) :=
  if a8 = 0 then (
    if a1 ≤ a10 then (
      sm_let (a10 + (1 : Int32)) fun x2 =>
      K122 a1 a2 a3 a5 a6 s0 (0 : Int32) a9 x2 S
    ) else
    mc (gM_isMaking a10 a5 a3 S) fun x3 S4 =>
    if x3 = 0 then (
      sm_let (a10 + (1 : Int32)) fun x5 =>
      K122 a1 a2 a3 a5 a6 s0 (0 : Int32) a9 x5 S4
    ) else
    sm_let (a10 + (1 : Int32)) fun x6 =>
    K122 a1 a2 a3 a5 a6 s0 (1 : Int32) a9 x6 S4
  ) else
  sm_let (a10 + (1 : Int32)) fun x1 =>
  K122 a1 a2 a3 a5 a6 s0 (1 : Int32) a9 x1 S
set_option maxRecDepth 100000 in
set_option maxHeartbeats 4000000 in
theorem tM_checkPlace_153 (m : Nat) (J122 : Nat → Int32 → Int32 → Int64 → Int32 → Int32 → Int32 → Int32 → Int32 → Int32 → sm_H → Option (Unit × sm_H)) (K122 : Int32 → Int32 → Int64 → Int32 → Int32 → Int32 → Int32 → Int32 → Int32 → MS → Option (Unit × MS)) (hK122 : ∀ (a1 : Int32) (a2 : Int32) (a3 : Int64) (a5 : Int32) (a6 : Int32) (a7 : Int32) (a8 : Int32) (a9 : Int32) (a10 : Int32) (h : sm_H) (S : MS), Mo h m S → z2 m (J122 m a1 a2 a3 a5 a6 a7 a8 a9 a10 h) (K122 a1 a2 a3 a5 a6 a7 a8 a9 a10 S) h) (a1 : Int32) (a2 : Int32) (a3 : Int64) (a5 : Int32) (a6 : Int32) (a8 : Int32) (a9 : Int32) (a10 : Int32) (s0 : Int32) (hh : sm_H) (S : MS) (HH : Mo hh m S) : z2 m (fX12_checkPlace_153 J122 m a1 a2 a3 a5 a6 a8 a9 a10 s0 hh) (gM_checkPlace_153 K122 a1 a2 a3 a5 a6 a8 a9 a10 s0 S) hh := by
  unfold fX12_checkPlace_153 gM_checkPlace_153
  refine z2_ite ?_ ?_
  · refine z2_ite ?_ ?_
    · refine z2_let (fun x2 => ?_)
      exact hK122 a1 a2 a3 a5 a6 s0 (0 : Int32) a9 x2 hh S HH
    refine z2_cV (F := fun b => fX12_isMaking b a10 a5 a3 hh) HH (tM_isMaking_0 m a10 a5 a3 hh S HH) (fun x3 S4 hh HH => ?_)
    refine z2_ite ?_ ?_
    · refine z2_let (fun x5 => ?_)
      exact hK122 a1 a2 a3 a5 a6 s0 (0 : Int32) a9 x5 hh S4 HH
    refine z2_let (fun x6 => ?_)
    exact hK122 a1 a2 a3 a5 a6 s0 (1 : Int32) a9 x6 hh S4 HH
  refine z2_let (fun x1 => ?_)
  exact hK122 a1 a2 a3 a5 a6 s0 (1 : Int32) a9 x1 hh S HH
noncomputable def gM_checkPlace_122  : Nat → Int32 → Int32 → Int64 → Int32 → Int32 → Int32 → Int32 → Int32 → Int32 → MS → Option (Unit × MS)
  | 0 => fun _ _ _ _ _ _ _ _ _ _ => none
  | n + 1 => fun a1 a2 a3 a5 a6 a7 a8 a9 a10 S =>
    sm_let (S.1 46) fun x1 =>
    if x1 ≤ a10 then (
      gM_checkPlace_194 sm_fuel a1 a2 a5 a6 a7 a8 a9 (0 : Int32) S
    ) else
    if a7 = 0 then (
      mc (gM_isMaking a10 a5 a3 S) fun x2 S3 =>
      if x2 = 0 then (
        gM_checkPlace_153 (gM_checkPlace_122 n) a1 a2 a3 a5 a6 a8 a9 a10 (0 : Int32) S3
      ) else
      gM_checkPlace_153 (gM_checkPlace_122 n) a1 a2 a3 a5 a6 a8 a9 a10 (1 : Int32) S3
    ) else
    gM_checkPlace_153 (gM_checkPlace_122 n) a1 a2 a3 a5 a6 a8 a9 a10 (1 : Int32) S
set_option maxRecDepth 100000 in
set_option maxHeartbeats 4000000 in
theorem tM_checkPlace_122 (m : Nat)    (n : Nat) : ∀ (a1 : Int32) (a2 : Int32) (a3 : Int64) (a5 : Int32) (a6 : Int32) (a7 : Int32) (a8 : Int32) (a9 : Int32) (a10 : Int32) (hh : sm_H) (S : MS), Mo hh m S → z2 m (fX12_checkPlace_122  n m a1 a2 a3 a5 a6 a7 a8 a9 a10 hh) (gM_checkPlace_122  n a1 a2 a3 a5 a6 a7 a8 a9 a10 S) hh := by
  induction n with
  | zero => intro a1 a2 a3 a5 a6 a7 a8 a9 a10 hh S HH; exact z2_none
  | succ n ih =>
    intro a1 a2 a3 a5 a6 a7 a8 a9 a10 hh S HH
    unfold fX12_checkPlace_122 gM_checkPlace_122
    refine z2_gI HH (by decide) rfl (fun x1 => ?_)
    refine z2_ite ?_ ?_
    · exact tM_checkPlace_194 m sm_fuel a1 a2 a5 a6 a7 a8 a9 (0 : Int32) hh S HH
    refine z2_ite ?_ ?_
    · refine z2_cV (F := fun b => fX12_isMaking b a10 a5 a3 hh) HH (tM_isMaking_0 m a10 a5 a3 hh S HH) (fun x2 S3 hh HH => ?_)
      refine z2_ite ?_ ?_
      · exact tM_checkPlace_153 m (fX12_checkPlace_122 n) (gM_checkPlace_122 n) ih a1 a2 a3 a5 a6 a8 a9 a10 (0 : Int32) hh S3 HH
      exact tM_checkPlace_153 m (fX12_checkPlace_122 n) (gM_checkPlace_122 n) ih a1 a2 a3 a5 a6 a8 a9 a10 (1 : Int32) hh S3 HH
    exact tM_checkPlace_153 m (fX12_checkPlace_122 n) (gM_checkPlace_122 n) ih a1 a2 a3 a5 a6 a8 a9 a10 (1 : Int32) hh S HH
noncomputable def gM_checkPlace_102  (a1 : Int32) (a2 : Int32) (a3 : Int64) (a5 : Int32) (s0 : Int32) (S : MS) : Option (Unit × MS) :=
  (mRI S 26 0 a5).bind fun x1 =>
  gM_checkPlace_122 sm_fuel a1 a2 a3 a5 s0 (0 : Int32) (0 : Int32) x1 (0 : Int32) S
set_option maxRecDepth 100000 in
set_option maxHeartbeats 4000000 in
theorem tM_checkPlace_102 (m : Nat)    (a1 : Int32) (a2 : Int32) (a3 : Int64) (a5 : Int32) (s0 : Int32) (hh : sm_H) (S : MS) (HH : Mo hh m S) : z2 m (fX12_checkPlace_102  m a1 a2 a3 a5 s0 hh) (gM_checkPlace_102  a1 a2 a3 a5 s0 S) hh := by
  unfold fX12_checkPlace_102 gM_checkPlace_102
  refine z2_gR HH (by decide) (by decide) ?_
  refine z2_aI HH (fun x1 => ?_)
  exact tM_checkPlace_122 m sm_fuel a1 a2 a3 a5 s0 (0 : Int32) (0 : Int32) x1 (0 : Int32) hh S HH
noncomputable def gM_checkPlace_81  (a1 : Int32) (a2 : Int32) (a3 : Int64) (a5 : Int32) (S : MS) : Option (Unit × MS) :=
  if 0 ≤ a5 then (
    mc (gM_placeOf a5 a3 S) fun x1 S2 =>
    if x1 < 0 then (
      gM_checkPlace_102 a1 a2 a3 a5 (0 : Int32) S2
    ) else
    gM_checkPlace_102 a1 a2 a3 a5 (1 : Int32) S2
  ) else
  some ((), S)
set_option maxRecDepth 100000 in
set_option maxHeartbeats 4000000 in
theorem tM_checkPlace_81 (m : Nat)    (a1 : Int32) (a2 : Int32) (a3 : Int64) (a5 : Int32) (hh : sm_H) (S : MS) (HH : Mo hh m S) : z2 m (fX12_checkPlace_81  m a1 a2 a3 a5 hh) (gM_checkPlace_81  a1 a2 a3 a5 S) hh := by
  unfold fX12_checkPlace_81 gM_checkPlace_81
  refine z2_ite ?_ ?_
  · refine z2_cV (F := fun b => fX12_placeOf b a5 a3 hh) HH (tM_placeOf_0 m a5 a3 hh S HH) (fun x1 S2 hh HH => ?_)
    refine z2_ite ?_ ?_
    · exact tM_checkPlace_102 m  a1 a2 a3 a5 (0 : Int32) hh S2 HH
    exact tM_checkPlace_102 m  a1 a2 a3 a5 (1 : Int32) hh S2 HH
  exact z2_ret HH
noncomputable def gM_checkPlace_39  (a1 : Int32) (a2 : Int32) (s0 : Int64) (S : MS) : Option (Unit × MS) :=
  (mRI S 15 0 a2).bind fun x1 =>
  if 0 ≤ x1 then (
    mc (gM_in s0 (1 : Int64) (2147483647 : Int64) S) fun x2 S3 =>
    if x2 = 0 then (
      mc (gM_fail (11 : Int32) a1 S3) fun _ S5 =>
      some ((), S5)
    ) else
    gM_checkPlace_81 a1 a2 s0 x1 S3
  ) else
  if (lg_cmp s0 (0 : Int64)) = 0 then (
    gM_checkPlace_81 a1 a2 s0 x1 S
  ) else
  mc (gM_fail (11 : Int32) a1 S) fun _ S7 =>
  some ((), S7)
set_option maxRecDepth 100000 in
set_option maxHeartbeats 4000000 in
theorem tM_checkPlace_39 (m : Nat)    (a1 : Int32) (a2 : Int32) (s0 : Int64) (hh : sm_H) (S : MS) (HH : Mo hh m S) : z2 m (fX12_checkPlace_39  m a1 a2 s0 hh) (gM_checkPlace_39  a1 a2 s0 S) hh := by
  unfold fX12_checkPlace_39 gM_checkPlace_39
  refine z2_gR HH (by decide) (by decide) ?_
  refine z2_aI HH (fun x1 => ?_)
  refine z2_ite ?_ ?_
  · refine z2_cS (tM_in_0 m s0 (1 : Int64) (2147483647 : Int64) hh S HH) (fun x2 S3 hh HH => ?_)
    refine z2_ite ?_ ?_
    · refine z2_cV (F := fun b => fX12_fail b (11 : Int32) a1 hh) HH (tM_fail_0 m (11 : Int32) a1 hh S3 HH) (fun _ S5 hh HH => ?_)
      exact z2_ret HH
    exact tM_checkPlace_81 m  a1 a2 s0 x1 hh S3 HH
  refine z2_ite ?_ ?_
  · exact tM_checkPlace_81 m  a1 a2 s0 x1 hh S HH
  refine z2_cV (F := fun b => fX12_fail b (11 : Int32) a1 hh) HH (tM_fail_0 m (11 : Int32) a1 hh S HH) (fun _ S7 hh HH => ?_)
  exact z2_ret HH
noncomputable def gM_checkPlace  (a1 : Int32) (a2 : Int32) (S : MS) : Option (Unit × MS) :=
  (mRI S 37 0 a1).bind fun x1 =>
  (mRI S 10 0 a2).bind fun x2 =>
  if x1 = (x2 + (1 : Int32)) then (
    (mRI S 10 0 a2).bind fun x3 =>
    (mRJ S 36 1 (((16 : Int32) * a1) + x3)).bind fun x4 =>
    gM_checkPlace_39 a1 a2 x4 S
  ) else
  gM_checkPlace_39 a1 a2 (-1 : Int64) S
set_option maxRecDepth 100000 in
set_option maxHeartbeats 4000000 in
theorem tM_checkPlace_0 (m : Nat)    (a1 : Int32) (a2 : Int32) (hh : sm_H) (S : MS) (HH : Mo hh m S) : z2 m (fX12_checkPlace  m a1 a2 hh) (gM_checkPlace  a1 a2 S) hh := by
  unfold fX12_checkPlace gM_checkPlace
  refine z2_gR HH (by decide) (by decide) ?_
  refine z2_aI HH (fun x1 => ?_)
  refine z2_gR HH (by decide) (by decide) ?_
  refine z2_aI HH (fun x2 => ?_)
  refine z2_ite ?_ ?_
  · refine z2_gR HH (by decide) (by decide) ?_
    refine z2_gR HH (by decide) (by decide) ?_
    refine z2_aI HH (fun x3 => ?_)
    refine z2_aJ HH (fun x4 => ?_)
    exact tM_checkPlace_39 m  a1 a2 x4 hh S HH
  exact tM_checkPlace_39 m  a1 a2 (-1 : Int64) hh S HH
