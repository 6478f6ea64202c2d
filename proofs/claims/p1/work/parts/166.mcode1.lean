-- M:TreeAgentModel.dropRow(II)V
noncomputable def gM_dropRow  (a1 : Int32) (a2 : Int32) (S : MS) : Option (Unit × MS) :=
  (mWI S 27 0 (((16 : Int32) * a1) + a2) (0 : Int32)).bind fun S1 =>
  (mRI S1 26 0 a1).bind fun x2 =>
  (mWI S1 26 0 a1 (x2 - (1 : Int32))).bind fun S3 =>
  some ((), S3)
set_option maxRecDepth 100000 in
set_option maxHeartbeats 4000000 in
theorem tM_dropRow_0 (m : Nat)    (a1 : Int32) (a2 : Int32) (hh : sm_H) (S : MS) (HH : Mo hh m S) : z2 m (fX12_dropRow  m a1 a2 hh) (gM_dropRow  a1 a2 S) hh := by
  unfold fX12_dropRow gM_dropRow
  refine z2_gR HH (by decide) (by decide) ?_
  refine z2_sI HH (fun S1 hh HH => ?_)
  refine z2_gR HH (by decide) (by decide) ?_
  refine z2_aI HH (fun x2 => ?_)
  refine z2_sI HH (fun S3 hh HH => ?_)
  exact z2_ret HH
-- M:TreeAgentModel.row(IIZ)I
noncomputable def gM_row_50  (a1 : Int32) (a2 : Int32) (a3 : Int32) (a4 : Int32) (s0 : Int32) (S : MS) : Option (Int32 × MS) :=
  if s0 = a3 then (
    some ((0 : Int32), S)
  ) else
  if a3 = 0 then (
    mc (gM_dropRow a1 a4 S) fun _ S5 =>
    some ((1 : Int32), S5)
  ) else
  (mRI S 26 0 a1).bind fun x1 =>
  if x1 = (16 : Int32) then (
    some ((-4 : Int32), S)
  ) else
  mc (gM_makeRow a1 a2 (1 : Int64) S) fun _ S3 =>
  some ((1 : Int32), S3)
set_option maxRecDepth 100000 in
set_option maxHeartbeats 4000000 in
theorem tM_row_50 (m : Nat)    (a1 : Int32) (a2 : Int32) (a3 : Int32) (a4 : Int32) (s0 : Int32) (hh : sm_H) (S : MS) (HH : Mo hh m S) : z2 m (fX12_row_50  m a1 a2 a3 a4 s0 hh) (gM_row_50  a1 a2 a3 a4 s0 S) hh := by
  unfold fX12_row_50 gM_row_50
  refine z2_ite ?_ ?_
  · exact z2_ret HH
  refine z2_ite ?_ ?_
  · refine z2_cV (F := fun b => fX12_dropRow b a1 a4 hh) HH (tM_dropRow_0 m a1 a4 hh S HH) (fun _ S5 hh HH => ?_)
    exact z2_ret HH
  refine z2_gR HH (by decide) (by decide) ?_
  refine z2_aI HH (fun x1 => ?_)
  refine z2_ite ?_ ?_
  · exact z2_ret HH
  refine z2_cV (F := fun b => fX12_makeRow b a1 a2 (1 : Int64) hh) HH (tM_makeRow_0 m a1 a2 (1 : Int64) hh S HH) (fun _ S3 hh HH => ?_)
  exact z2_ret HH
noncomputable def gM_row  (a1 : Int32) (a2 : Int32) (a3 : Int32) (S : MS) : Option (Int32 × MS) :=
  sm_let (sI S 0 (0 : Int32)) fun S1 =>
  sm_let (S1.1 22) fun x2 =>
  mc (gM_in (a1.toInt64) (0 : Int64) ((x2 - (1 : Int32)).toInt64) S1) fun x3 S4 =>
  if x3 = 0 then (
    some ((-1 : Int32), S4)
  ) else
  if (1 : Int32) ≤ a2 then (
    mc (gM_placeOf a1 (a2.toInt64) S4) fun x5 S6 =>
    if x5 < 0 then (
      gM_row_50 a1 a2 a3 x5 (0 : Int32) S6
    ) else
    gM_row_50 a1 a2 a3 x5 (1 : Int32) S6
  ) else
  some ((-2 : Int32), S4)
set_option maxRecDepth 100000 in
set_option maxHeartbeats 4000000 in
theorem tM_row_0 (m : Nat)    (a1 : Int32) (a2 : Int32) (a3 : Int32) (hh : sm_H) (S : MS) (HH : Mo hh m S) : z2 m (fX12_row  m a1 a2 a3 hh) (gM_row  a1 a2 a3 S) hh := by
  unfold fX12_row gM_row
  refine z2_pI HH (by decide) rfl (fun S1 hh HH => ?_)
  refine z2_gI HH (by decide) rfl (fun x2 => ?_)
  refine z2_cS (tM_in_0 m (a1.toInt64) (0 : Int64) ((x2 - (1 : Int32)).toInt64) hh S1 HH) (fun x3 S4 hh HH => ?_)
  refine z2_ite ?_ ?_
  · exact z2_ret HH
  refine z2_ite ?_ ?_
  · refine z2_cV (F := fun b => fX12_placeOf b a1 (a2.toInt64) hh) HH (tM_placeOf_0 m a1 (a2.toInt64) hh S4 HH) (fun x5 S6 hh HH => ?_)
    refine z2_ite ?_ ?_
    · exact tM_row_50 m  a1 a2 a3 x5 (0 : Int32) hh S6 HH
    exact tM_row_50 m  a1 a2 a3 x5 (1 : Int32) hh S6 HH
  exact z2_ret HH
-- M:TreeAgentModel.instance(II)I
noncomputable def gM_instance  (a1 : Int32) (a2 : Int32) (S : MS) : Option (Int32 × MS) :=
  sm_let (S.1 8) fun x1 =>
  mc (gM_in (a1.toInt64) (0 : Int64) ((x1 - (1 : Int32)).toInt64) S) fun x2 S3 =>
  if x2 = 0 then (
    some ((-1 : Int32), S3)
  ) else
  (mRI S3 15 0 a1).bind fun x4 =>
  if 0 ≤ x4 then (
    (mRI S3 15 0 a1).bind fun x5 =>
    mc (gM_placeOf x5 (a2.toInt64) S3) fun x6 S7 =>
    if 0 ≤ x6 then (
      some (((16 : Int32) * a1) + x6, S7)
    ) else
    some ((-1 : Int32), S7)
  ) else
  if a2 = 0 then (
    some ((16 : Int32) * a1, S3)
  ) else
  some ((-1 : Int32), S3)
set_option maxRecDepth 100000 in
set_option maxHeartbeats 4000000 in
theorem tM_instance_0 (m : Nat)    (a1 : Int32) (a2 : Int32) (hh : sm_H) (S : MS) (HH : Mo hh m S) : z2 m (fX12_instance  m a1 a2 hh) (gM_instance  a1 a2 S) hh := by
  unfold fX12_instance gM_instance
  refine z2_gI HH (by decide) rfl (fun x1 => ?_)
  refine z2_cS (tM_in_0 m (a1.toInt64) (0 : Int64) ((x1 - (1 : Int32)).toInt64) hh S HH) (fun x2 S3 hh HH => ?_)
  refine z2_ite ?_ ?_
  · exact z2_ret HH
  refine z2_gR HH (by decide) (by decide) ?_
  refine z2_aI HH (fun x4 => ?_)
  refine z2_ite ?_ ?_
  · refine z2_gR HH (by decide) (by decide) ?_
    refine z2_aI HH (fun x5 => ?_)
    refine z2_cV (F := fun b => fX12_placeOf b x5 (a2.toInt64) hh) HH (tM_placeOf_0 m x5 (a2.toInt64) hh S3 HH) (fun x6 S7 hh HH => ?_)
    refine z2_ite ?_ ?_
    · exact z2_ret HH
    exact z2_ret HH
  refine z2_ite ?_ ?_
  · exact z2_ret HH
  exact z2_ret HH
-- M:TreeAgentModel.value(IIJ)I
noncomputable def gM_value_106  (a1 : Int32) (a3 : Int64) (a5 : Int32) (S : MS) : Option (Int32 × MS) :=
  (mRI S 11 0 a1).bind fun x1 =>
  if x1 = (64 : Int32) then (
    (mWJ S 17 1 a5 (a3 &&& (4294967295 : Int64))).bind fun S3 =>
    some ((1 : Int32), S3)
  ) else
  (mWJ S 17 1 a5 a3).bind fun S2 =>
  some ((1 : Int32), S2)
set_option maxRecDepth 100000 in
set_option maxHeartbeats 4000000 in
theorem tM_value_106 (m : Nat)    (a1 : Int32) (a3 : Int64) (a5 : Int32) (hh : sm_H) (S : MS) (HH : Mo hh m S) : z2 m (fX12_value_106  m a1 a3 a5 hh) (gM_value_106  a1 a3 a5 S) hh := by
  unfold fX12_value_106 gM_value_106
  refine z2_gR HH (by decide) (by decide) ?_
  refine z2_gR HH (by decide) (by decide) ?_
  refine z2_aI HH (fun x1 => ?_)
  refine z2_ite ?_ ?_
  · refine z2_sJ HH (fun S3 hh HH => ?_)
    exact z2_ret HH
  refine z2_sJ HH (fun S2 hh HH => ?_)
  exact z2_ret HH
noncomputable def gM_value_73  (a1 : Int32) (a3 : Int64) (a5 : Int32) (S : MS) : Option (Int32 × MS) :=
  (mRI S 11 0 a1).bind fun x1 =>
  mc (gM_in (x1.toInt64) (65 : Int64) (67 : Int64) S) fun x2 S3 =>
  if x2 = 0 then (
    gM_value_106 a1 a3 a5 S3
  ) else
  mc (gM_in a3 (0 : Int64) (4294967295 : Int64) S3) fun x4 S5 =>
  if x4 = 0 then (
    some ((-2 : Int32), S5)
  ) else
  gM_value_106 a1 a3 a5 S5
set_option maxRecDepth 100000 in
set_option maxHeartbeats 4000000 in
theorem tM_value_73 (m : Nat)    (a1 : Int32) (a3 : Int64) (a5 : Int32) (hh : sm_H) (S : MS) (HH : Mo hh m S) : z2 m (fX12_value_73  m a1 a3 a5 hh) (gM_value_73  a1 a3 a5 S) hh := by
  unfold fX12_value_73 gM_value_73
  refine z2_gR HH (by decide) (by decide) ?_
  refine z2_aI HH (fun x1 => ?_)
  refine z2_cS (tM_in_0 m (x1.toInt64) (65 : Int64) (67 : Int64) hh S HH) (fun x2 S3 hh HH => ?_)
  refine z2_ite ?_ ?_
  · exact tM_value_106 m  a1 a3 a5 hh S3 HH
  refine z2_cS (tM_in_0 m a3 (0 : Int64) (4294967295 : Int64) hh S3 HH) (fun x4 S5 hh HH => ?_)
  refine z2_ite ?_ ?_
  · exact z2_ret HH
  exact tM_value_106 m  a1 a3 a5 hh S5 HH
noncomputable def gM_value  (a1 : Int32) (a2 : Int32) (a3 : Int64) (S : MS) : Option (Int32 × MS) :=
  sm_let (sI S 0 (0 : Int32)) fun S1 =>
  mc (gM_instance a1 a2 S1) fun x2 S3 =>
  if x2 < 0 then (
    some ((-1 : Int32), S3)
  ) else
  (mRI S3 11 0 a1).bind fun x4 =>
  if x4 = (4 : Int32) then (
    some ((-1 : Int32), S3)
  ) else
  (mRI S3 11 0 a1).bind fun x5 =>
  if x5 = (6 : Int32) then (
    some ((-1 : Int32), S3)
  ) else
  (mRI S3 16 2 a1).bind fun x6 =>
  if x6 = 0 then (
    (mRI S3 11 0 a1).bind fun x7 =>
    if x7 = (2 : Int32) then (
      mc (gM_in a3 (-2147483648 : Int64) (2147483647 : Int64) S3) fun x8 S9 =>
      if x8 = 0 then (
        some ((-2 : Int32), S9)
      ) else
      gM_value_73 a1 a3 x2 S9
    ) else
    gM_value_73 a1 a3 x2 S3
  ) else
  some ((-1 : Int32), S3)
set_option maxRecDepth 100000 in
set_option maxHeartbeats 4000000 in
theorem tM_value_0 (m : Nat)    (a1 : Int32) (a2 : Int32) (a3 : Int64) (hh : sm_H) (S : MS) (HH : Mo hh m S) : z2 m (fX12_value  m a1 a2 a3 hh) (gM_value  a1 a2 a3 S) hh := by
  unfold fX12_value gM_value
  refine z2_pI HH (by decide) rfl (fun S1 hh HH => ?_)
  refine z2_cV (F := fun b => fX12_instance b a1 a2 hh) HH (tM_instance_0 m a1 a2 hh S1 HH) (fun x2 S3 hh HH => ?_)
  refine z2_ite ?_ ?_
  · exact z2_ret HH
  refine z2_gR HH (by decide) (by decide) ?_
  refine z2_aI HH (fun x4 => ?_)
  refine z2_ite ?_ ?_
  · exact z2_ret HH
  refine z2_gR HH (by decide) (by decide) ?_
  refine z2_aI HH (fun x5 => ?_)
  refine z2_ite ?_ ?_
  · exact z2_ret HH
  refine z2_gR HH (by decide) (by decide) ?_
  refine z2_aI HH (fun x6 => ?_)
  refine z2_ite ?_ ?_
  · refine z2_gR HH (by decide) (by decide) ?_
    refine z2_aI HH (fun x7 => ?_)
    refine z2_ite ?_ ?_
    · refine z2_cS (tM_in_0 m a3 (-2147483648 : Int64) (2147483647 : Int64) hh S3 HH) (fun x8 S9 hh HH => ?_)
      refine z2_ite ?_ ?_
      · exact z2_ret HH
      exact tM_value_73 m  a1 a3 x2 hh S9 HH
    exact tM_value_73 m  a1 a3 x2 hh S3 HH
  exact z2_ret HH
-- M:TreeAgentModel.text(II)I
noncomputable def gM_text_52  : Nat → Int32 → Int32 → Int32 → MS → Option (Int32 × MS)
  | 0 => fun _ _ _ _ => none
  | n + 1 => fun a3 a4 a5 S =>
    if a3 ≤ a5 then (
      (mWI S 19 0 a4 a3).bind fun S1 =>
      some (a3, S1)
    ) else
    (mRI S 1 3 a5).bind fun x2 =>
    (mWI S 18 3 (((40 : Int32) * a4) + a5) (vp_nar .byte x2)).bind fun S3 =>
    sm_let (a5 + (1 : Int32)) fun x4 =>
    (gM_text_52 n) a3 a4 x4 S3
set_option maxRecDepth 100000 in
set_option maxHeartbeats 4000000 in
theorem tM_text_52 (m : Nat)    (n : Nat) : ∀ (a3 : Int32) (a4 : Int32) (a5 : Int32) (hh : sm_H) (S : MS), Mo hh m S → z2 m (fX12_text_52  n m a3 a4 a5 hh) (gM_text_52  n a3 a4 a5 S) hh := by
  induction n with
  | zero => intro a3 a4 a5 hh S HH; exact z2_none
  | succ n ih =>
    intro a3 a4 a5 hh S HH
    unfold fX12_text_52 gM_text_52
    refine z2_ite ?_ ?_
    · refine z2_gR HH (by decide) (by decide) ?_
      refine z2_sI HH (fun S1 hh HH => ?_)
      exact z2_ret HH
    refine z2_gR HH (by decide) (by decide) ?_
    refine z2_gR HH (by decide) (by decide) ?_
    refine z2_aI HH (fun x2 => ?_)
    refine z2_sI HH (fun S3 hh HH => ?_)
    refine z2_let (fun x4 => ?_)
    exact ih a3 a4 x4 hh S3 HH
noncomputable def gM_text  (a1 : Int32) (a2 : Int32) (S : MS) : Option (Int32 × MS) :=
  sm_let (sI S 0 (0 : Int32)) fun S1 =>
  sm_let (S1.1 2) fun x2 =>
  sm_let (sI S1 2 (0 : Int32)) fun S3 =>
  mc (gM_instance a1 a2 S3) fun x4 S5 =>
  if x4 < 0 then (
    some ((-1 : Int32), S5)
  ) else
  (mRI S5 11 0 a1).bind fun x6 =>
  if x6 = (4 : Int32) then (
    if x2 ≤ (40 : Int32) then (
      gM_text_52 sm_fuel x2 x4 (0 : Int32) S5
    ) else
    some ((-2 : Int32), S5)
  ) else
  some ((-1 : Int32), S5)
set_option maxRecDepth 100000 in
set_option maxHeartbeats 4000000 in
theorem tM_text_0 (m : Nat)    (a1 : Int32) (a2 : Int32) (hh : sm_H) (S : MS) (HH : Mo hh m S) : z2 m (fX12_text  m a1 a2 hh) (gM_text  a1 a2 S) hh := by
  unfold fX12_text gM_text
  refine z2_pI HH (by decide) rfl (fun S1 hh HH => ?_)
  refine z2_gI HH (by decide) rfl (fun x2 => ?_)
  refine z2_pI HH (by decide) rfl (fun S3 hh HH => ?_)
  refine z2_cV (F := fun b => fX12_instance b a1 a2 hh) HH (tM_instance_0 m a1 a2 hh S3 HH) (fun x4 S5 hh HH => ?_)
  refine z2_ite ?_ ?_
  · exact z2_ret HH
  refine z2_gR HH (by decide) (by decide) ?_
  refine z2_aI HH (fun x6 => ?_)
  refine z2_ite ?_ ?_
  · refine z2_ite ?_ ?_
    · exact tM_text_52 m sm_fuel x2 x4 (0 : Int32) hh S5 HH
    exact z2_ret HH
  exact z2_ret HH
-- M:TreeAgentModel.identity(II)I
noncomputable def gM_identity_61  : Nat → Int32 → Int32 → Int32 → MS → Option (Int32 × MS)
  | 0 => fun _ _ _ _ => none
  | n + 1 => fun a3 a4 a5 S =>
    if a3 ≤ a5 then (
      (mWI S 21 0 a4 a3).bind fun S1 =>
      some (a3, S1)
    ) else
    (mRJ S 3 1 a5).bind fun x2 =>
    (mWJ S 20 1 (((16 : Int32) * a4) + a5) x2).bind fun S3 =>
    sm_let (a5 + (1 : Int32)) fun x4 =>
    (gM_identity_61 n) a3 a4 x4 S3
set_option maxRecDepth 100000 in
set_option maxHeartbeats 4000000 in
theorem tM_identity_61 (m : Nat)    (n : Nat) : ∀ (a3 : Int32) (a4 : Int32) (a5 : Int32) (hh : sm_H) (S : MS), Mo hh m S → z2 m (fX12_identity_61  n m a3 a4 a5 hh) (gM_identity_61  n a3 a4 a5 S) hh := by
  induction n with
  | zero => intro a3 a4 a5 hh S HH; exact z2_none
  | succ n ih =>
    intro a3 a4 a5 hh S HH
    unfold fX12_identity_61 gM_identity_61
    refine z2_ite ?_ ?_
    · refine z2_gR HH (by decide) (by decide) ?_
      refine z2_sI HH (fun S1 hh HH => ?_)
      exact z2_ret HH
    refine z2_gR HH (by decide) (by decide) ?_
    refine z2_gR HH (by decide) (by decide) ?_
    refine z2_aJ HH (fun x2 => ?_)
    refine z2_sJ HH (fun S3 hh HH => ?_)
    refine z2_let (fun x4 => ?_)
    exact ih a3 a4 x4 hh S3 HH
noncomputable def gM_identity  (a1 : Int32) (a2 : Int32) (S : MS) : Option (Int32 × MS) :=
  sm_let (sI S 0 (0 : Int32)) fun S1 =>
  sm_let (S1.1 4) fun x2 =>
  sm_let (sI S1 4 (0 : Int32)) fun S3 =>
  mc (gM_instance a1 a2 S3) fun x4 S5 =>
  if x4 < 0 then (
    some ((-1 : Int32), S5)
  ) else
  (mRI S5 11 0 a1).bind fun x6 =>
  if x6 = (6 : Int32) then (
    mc (gM_in (x2.toInt64) (2 : Int64) (16 : Int64) S5) fun x7 S8 =>
    if x7 = 0 then (
      some ((-2 : Int32), S8)
    ) else
    gM_identity_61 sm_fuel x2 x4 (0 : Int32) S8
  ) else
  some ((-1 : Int32), S5)
set_option maxRecDepth 100000 in
set_option maxHeartbeats 4000000 in
theorem tM_identity_0 (m : Nat)    (a1 : Int32) (a2 : Int32) (hh : sm_H) (S : MS) (HH : Mo hh m S) : z2 m (fX12_identity  m a1 a2 hh) (gM_identity  a1 a2 S) hh := by
  unfold fX12_identity gM_identity
  refine z2_pI HH (by decide) rfl (fun S1 hh HH => ?_)
  refine z2_gI HH (by decide) rfl (fun x2 => ?_)
  refine z2_pI HH (by decide) rfl (fun S3 hh HH => ?_)
  refine z2_cV (F := fun b => fX12_instance b a1 a2 hh) HH (tM_instance_0 m a1 a2 hh S3 HH) (fun x4 S5 hh HH => ?_)
  refine z2_ite ?_ ?_
  · exact z2_ret HH
  refine z2_gR HH (by decide) (by decide) ?_
  refine z2_aI HH (fun x6 => ?_)
  refine z2_ite ?_ ?_
  · refine z2_cS (tM_in_0 m (x2.toInt64) (2 : Int64) (16 : Int64) hh S5 HH) (fun x7 S8 hh HH => ?_)
    refine z2_ite ?_ ?_
    · exact z2_ret HH
    exact tM_identity_61 m sm_fuel x2 x4 (0 : Int32) hh S8 HH
  exact z2_ret HH
-- M:TreeAgentModel.communityOf([BII)I
noncomputable def gM_communityOf_33 (K3 : Nat → Int32 → Int32 → Int32 → MS → Option (Int32 × MS)) : Nat → Nat → Int32 → Int32 → Int32 → Int32 → Int32 → MS → Option (Int32 × MS)
  | 0 => fun _ _ _ _ _ _ _ => none
  | n + 1 => fun a1 a2 a3 a4 a5 a6 S =>
    if a3 ≤ a6 then (
      if a5 = 0 then (
        sm_let (a4 + (1 : Int32)) fun x1 =>
        K3 a1 a2 a3 x1 S
      ) else
      some (a4, S)
    ) else
    if a5 = 0 then (
      if a5 = 0 then (
        sm_let (a4 + (1 : Int32)) fun x2 =>
        K3 a1 a2 a3 x2 S
      ) else
      some (a4, S)
    ) else
    (mRI S 29 3 (((40 : Int32) * a4) + a6)).bind fun x3 =>
    (mRI S a1 3 (a2 + a6)).bind fun x4 =>
    if x3 = x4 then (
      sm_let (a6 + (1 : Int32)) fun x6 =>
      (gM_communityOf_33 K3 n) a1 a2 a3 a4 (1 : Int32) x6 S
    ) else
    sm_let (a6 + (1 : Int32)) fun x5 =>
    (gM_communityOf_33 K3 n) a1 a2 a3 a4 (0 : Int32) x5 S
set_option maxRecDepth 100000 in
set_option maxHeartbeats 4000000 in
theorem tM_communityOf_33 (m : Nat) (J3 : Nat → Option Nat → Int32 → Int32 → Int32 → sm_H → Option (Int32 × sm_H)) (K3 : Nat → Int32 → Int32 → Int32 → MS → Option (Int32 × MS)) (hK3 : ∀ (a1 : Nat) (a2 : Int32) (a3 : Int32) (a4 : Int32) (h : sm_H) (S : MS), Mo h m S → z2 m (J3 m (mR m a1) a2 a3 a4 h) (K3 a1 a2 a3 a4 S) h) (n : Nat) : ∀ (a1 : Nat) (a2 : Int32) (a3 : Int32) (a4 : Int32) (a5 : Int32) (a6 : Int32) (hh : sm_H) (S : MS), Mo hh m S → z2 m (fX12_communityOf_33 J3 n m (mR m a1) a2 a3 a4 a5 a6 hh) (gM_communityOf_33 K3 n a1 a2 a3 a4 a5 a6 S) hh := by
  induction n with
  | zero => intro a1 a2 a3 a4 a5 a6 hh S HH; exact z2_none
  | succ n ih =>
    intro a1 a2 a3 a4 a5 a6 hh S HH
    unfold fX12_communityOf_33 gM_communityOf_33
    refine z2_ite ?_ ?_
    · refine z2_ite ?_ ?_
      · refine z2_let (fun x1 => ?_)
        exact hK3 a1 a2 a3 x1 hh S HH
      exact z2_ret HH
    refine z2_ite ?_ ?_
    · refine z2_ite ?_ ?_
      · refine z2_let (fun x2 => ?_)
        exact hK3 a1 a2 a3 x2 hh S HH
      exact z2_ret HH
    refine z2_gR HH (by decide) (by decide) ?_
    refine z2_aI HH (fun x3 => ?_)
    refine z2_aI HH (fun x4 => ?_)
    refine z2_ite ?_ ?_
    · refine z2_let (fun x6 => ?_)
      exact ih a1 a2 a3 a4 (1 : Int32) x6 hh S HH
    refine z2_let (fun x5 => ?_)
    exact ih a1 a2 a3 a4 (0 : Int32) x5 hh S HH
noncomputable def gM_communityOf_3  : Nat → Nat → Int32 → Int32 → Int32 → MS → Option (Int32 × MS)
  | 0 => fun _ _ _ _ _ => none
  | n + 1 => fun a1 a2 a3 a4 S =>
    sm_let (S.1 28) fun x1 =>
    if x1 ≤ a4 then (
      some ((-1 : Int32), S)
    ) else
    (mRI S 30 0 a4).bind fun x2 =>
    if x2 = a3 then (
      gM_communityOf_33 (gM_communityOf_3 n) sm_fuel a1 a2 a3 a4 (1 : Int32) (0 : Int32) S
    ) else
    gM_communityOf_33 (gM_communityOf_3 n) sm_fuel a1 a2 a3 a4 (0 : Int32) (0 : Int32) S
set_option maxRecDepth 100000 in
set_option maxHeartbeats 4000000 in
theorem tM_communityOf_3 (m : Nat)    (n : Nat) : ∀ (a1 : Nat) (a2 : Int32) (a3 : Int32) (a4 : Int32) (hh : sm_H) (S : MS), Mo hh m S → z2 m (fX12_communityOf_3  n m (mR m a1) a2 a3 a4 hh) (gM_communityOf_3  n a1 a2 a3 a4 S) hh := by
  induction n with
  | zero => intro a1 a2 a3 a4 hh S HH; exact z2_none
  | succ n ih =>
    intro a1 a2 a3 a4 hh S HH
    unfold fX12_communityOf_3 gM_communityOf_3
    refine z2_gI HH (by decide) rfl (fun x1 => ?_)
    refine z2_ite ?_ ?_
    · exact z2_ret HH
    refine z2_gR HH (by decide) (by decide) ?_
    refine z2_aI HH (fun x2 => ?_)
    refine z2_ite ?_ ?_
    · exact tM_communityOf_33 m (fX12_communityOf_3 n) (gM_communityOf_3 n) ih sm_fuel a1 a2 a3 a4 (1 : Int32) (0 : Int32) hh S HH
    exact tM_communityOf_33 m (fX12_communityOf_3 n) (gM_communityOf_3 n) ih sm_fuel a1 a2 a3 a4 (0 : Int32) (0 : Int32) hh S HH
noncomputable def gM_communityOf  (a1 : Nat) (a2 : Int32) (a3 : Int32) (S : MS) : Option (Int32 × MS) :=
  gM_communityOf_3 sm_fuel a1 a2 a3 (0 : Int32) S
set_option maxRecDepth 100000 in
set_option maxHeartbeats 4000000 in
theorem tM_communityOf_0 (m : Nat)    (a1 : Nat) (a2 : Int32) (a3 : Int32) (hh : sm_H) (S : MS) (HH : Mo hh m S) : z2 m (fX12_communityOf  m (mR m a1) a2 a3 hh) (gM_communityOf  a1 a2 a3 S) hh := by
  unfold fX12_communityOf gM_communityOf
  exact tM_communityOf_3 m sm_fuel a1 a2 a3 (0 : Int32) hh S HH
-- M:TreeAgentModel.community(Z)I
noncomputable def gM_community_54  : Nat → Int32 → Int32 → Int32 → MS → Option (Int32 × MS)
  | 0 => fun _ _ _ _ => none
  | n + 1 => fun a1 a2 a3 S =>
    if a2 ≤ a3 then (
      sm_let (S.1 28) fun x1 =>
      (mWI S 30 0 x1 a2).bind fun S2 =>
      sm_let (S2.1 28) fun x3 =>
      (mWI S2 31 2 x3 (vp_nar .boolean a1)).bind fun S4 =>
      sm_let (S4.1 28) fun x5 =>
      sm_let (sI S4 28 (x5 + (1 : Int32))) fun S6 =>
      sm_let (S6.1 28) fun x7 =>
      some (x7 - (1 : Int32), S6)
    ) else
    sm_let (S.1 28) fun x8 =>
    (mRI S 1 3 a3).bind fun x9 =>
    (mWI S 29 3 (((40 : Int32) * x8) + a3) (vp_nar .byte x9)).bind fun S10 =>
    sm_let (a3 + (1 : Int32)) fun x11 =>
    (gM_community_54 n) a1 a2 x11 S10
set_option maxRecDepth 100000 in
set_option maxHeartbeats 4000000 in
theorem tM_community_54 (m : Nat)    (n : Nat) : ∀ (a1 : Int32) (a2 : Int32) (a3 : Int32) (hh : sm_H) (S : MS), Mo hh m S → z2 m (fX12_community_54  n m a1 a2 a3 hh) (gM_community_54  n a1 a2 a3 S) hh := by
  induction n with
  | zero => intro a1 a2 a3 hh S HH; exact z2_none
  | succ n ih =>
    intro a1 a2 a3 hh S HH
    unfold fX12_community_54 gM_community_54
    refine z2_ite ?_ ?_
    · refine z2_gR HH (by decide) (by decide) ?_
      refine z2_gI HH (by decide) rfl (fun x1 => ?_)
      refine z2_sI HH (fun S2 hh HH => ?_)
      refine z2_gR HH (by decide) (by decide) ?_
      refine z2_gI HH (by decide) rfl (fun x3 => ?_)
      refine z2_sI HH (fun S4 hh HH => ?_)
      refine z2_gI HH (by decide) rfl (fun x5 => ?_)
      refine z2_pI HH (by decide) rfl (fun S6 hh HH => ?_)
      refine z2_gI HH (by decide) rfl (fun x7 => ?_)
      exact z2_ret HH
    refine z2_gR HH (by decide) (by decide) ?_
    refine z2_gI HH (by decide) rfl (fun x8 => ?_)
    refine z2_gR HH (by decide) (by decide) ?_
    refine z2_aI HH (fun x9 => ?_)
    refine z2_sI HH (fun S10 hh HH => ?_)
    refine z2_let (fun x11 => ?_)
    exact ih a1 a2 x11 hh S10 HH
noncomputable def gM_community  (a1 : Int32) (S : MS) : Option (Int32 × MS) :=
  sm_let (sI S 0 (0 : Int32)) fun S1 =>
  sm_let (S1.1 2) fun x2 =>
  sm_let (sI S1 2 (0 : Int32)) fun S3 =>
  if x2 ≤ (40 : Int32) then (
    mc (gM_communityOf 1 (0 : Int32) x2 S3) fun x4 S5 =>
    if x4 < 0 then (
      sm_let (S5.1 28) fun x6 =>
      if x6 = (8 : Int32) then (
        some ((-4 : Int32), S5)
      ) else
      gM_community_54 sm_fuel a1 x2 (0 : Int32) S5
    ) else
    some ((-3 : Int32), S5)
  ) else
  some ((-2 : Int32), S3)
set_option maxRecDepth 100000 in
set_option maxHeartbeats 4000000 in
theorem tM_community_0 (m : Nat)    (a1 : Int32) (hh : sm_H) (S : MS) (HH : Mo hh m S) : z2 m (fX12_community  m a1 hh) (gM_community  a1 S) hh := by
  unfold fX12_community gM_community
  refine z2_pI HH (by decide) rfl (fun S1 hh HH => ?_)
  refine z2_gI HH (by decide) rfl (fun x2 => ?_)
  refine z2_pI HH (by decide) rfl (fun S3 hh HH => ?_)
  refine z2_ite ?_ ?_
  · refine z2_gR HH (by decide) (by decide) ?_
    refine z2_cV (F := fun b => fX12_communityOf b (mR m 1) (0 : Int32) x2 hh) HH (tM_communityOf_0 m 1 (0 : Int32) x2 hh S3 HH) (fun x4 S5 hh HH => ?_)
    refine z2_ite ?_ ?_
    · refine z2_gI HH (by decide) rfl (fun x6 => ?_)
      refine z2_ite ?_ ?_
      · exact z2_ret HH
      exact tM_community_54 m sm_fuel a1 x2 (0 : Int32) hh S5 HH
    exact z2_ret HH
  exact z2_ret HH
-- M:TreeAgentModel.view(IZ)I
noncomputable def gM_view_80  : Nat → Int32 → Int32 → Int32 → Int32 → Int32 → MS → Option (Int32 × MS)
  | 0 => fun _ _ _ _ _ _ => none
  | n + 1 => fun a1 a2 a3 a4 a5 S =>
    if a3 ≤ a5 then (
      (mWI S 34 0 a4 a3).bind fun S1 =>
      (mWI S1 35 2 a4 (vp_nar .boolean a2)).bind fun S2 =>
      (mRI S2 32 0 a1).bind fun x3 =>
      (mWI S2 32 0 a1 (x3 + (1 : Int32))).bind fun S4 =>
      (mRI S4 32 0 a1).bind fun x5 =>
      some (x5, S4)
    ) else
    (mRJ S 3 1 a5).bind fun x6 =>
    (mWJ S 33 1 (((16 : Int32) * a4) + a5) x6).bind fun S7 =>
    sm_let (a5 + (1 : Int32)) fun x8 =>
    (gM_view_80 n) a1 a2 a3 a4 x8 S7
set_option maxRecDepth 100000 in
set_option maxHeartbeats 4000000 in
theorem tM_view_80 (m : Nat)    (n : Nat) : ∀ (a1 : Int32) (a2 : Int32) (a3 : Int32) (a4 : Int32) (a5 : Int32) (hh : sm_H) (S : MS), Mo hh m S → z2 m (fX12_view_80  n m a1 a2 a3 a4 a5 hh) (gM_view_80  n a1 a2 a3 a4 a5 S) hh := by
  induction n with
  | zero => intro a1 a2 a3 a4 a5 hh S HH; exact z2_none
  | succ n ih =>
    intro a1 a2 a3 a4 a5 hh S HH
    unfold fX12_view_80 gM_view_80
    refine z2_ite ?_ ?_
    · refine z2_gR HH (by decide) (by decide) ?_
      refine z2_sI HH (fun S1 hh HH => ?_)
      refine z2_gR HH (by decide) (by decide) ?_
      refine z2_sI HH (fun S2 hh HH => ?_)
      refine z2_gR HH (by decide) (by decide) ?_
      refine z2_aI HH (fun x3 => ?_)
      refine z2_sI HH (fun S4 hh HH => ?_)
      refine z2_gR HH (by decide) (by decide) ?_
      refine z2_aI HH (fun x5 => ?_)
      exact z2_ret HH
    refine z2_gR HH (by decide) (by decide) ?_
    refine z2_gR HH (by decide) (by decide) ?_
    refine z2_aJ HH (fun x6 => ?_)
    refine z2_sJ HH (fun S7 hh HH => ?_)
    refine z2_let (fun x8 => ?_)
    exact ih a1 a2 a3 a4 x8 hh S7 HH
noncomputable def gM_view  (a1 : Int32) (a2 : Int32) (S : MS) : Option (Int32 × MS) :=
  sm_let (sI S 0 (0 : Int32)) fun S1 =>
  sm_let (S1.1 4) fun x2 =>
  sm_let (sI S1 4 (0 : Int32)) fun S3 =>
  sm_let (S3.1 28) fun x4 =>
  mc (gM_in (a1.toInt64) (0 : Int64) ((x4 - (1 : Int32)).toInt64) S3) fun x5 S6 =>
  if x5 = 0 then (
    some ((-1 : Int32), S6)
  ) else
  mc (gM_in (x2.toInt64) (2 : Int64) (16 : Int64) S6) fun x7 S8 =>
  if x7 = 0 then (
    some ((-2 : Int32), S8)
  ) else
  (mRI S8 32 0 a1).bind fun x9 =>
  if x9 = (8 : Int32) then (
    some ((-4 : Int32), S8)
  ) else
  (mRI S8 32 0 a1).bind fun x10 =>
  sm_let (((8 : Int32) * a1) + x10) fun x11 =>
  gM_view_80 sm_fuel a1 a2 x2 x11 (0 : Int32) S8
set_option maxRecDepth 100000 in
set_option maxHeartbeats 4000000 in
theorem tM_view_0 (m : Nat)    (a1 : Int32) (a2 : Int32) (hh : sm_H) (S : MS) (HH : Mo hh m S) : z2 m (fX12_view  m a1 a2 hh) (gM_view  a1 a2 S) hh := by
  unfold fX12_view gM_view
  refine z2_pI HH (by decide) rfl (fun S1 hh HH => ?_)
  refine z2_gI HH (by decide) rfl (fun x2 => ?_)
  refine z2_pI HH (by decide) rfl (fun S3 hh HH => ?_)
  refine z2_gI HH (by decide) rfl (fun x4 => ?_)
  refine z2_cS (tM_in_0 m (a1.toInt64) (0 : Int64) ((x4 - (1 : Int32)).toInt64) hh S3 HH) (fun x5 S6 hh HH => ?_)
  refine z2_ite ?_ ?_
  · exact z2_ret HH
  refine z2_cS (tM_in_0 m (x2.toInt64) (2 : Int64) (16 : Int64) hh S6 HH) (fun x7 S8 hh HH => ?_)
  refine z2_ite ?_ ?_
  · exact z2_ret HH
  refine z2_gR HH (by decide) (by decide) ?_
  refine z2_aI HH (fun x9 => ?_)
  refine z2_ite ?_ ?_
  · exact z2_ret HH
  refine z2_gR HH (by decide) (by decide) ?_
  refine z2_aI HH (fun x10 => ?_)
  refine z2_let (fun x11 => ?_)
  exact tM_view_80 m sm_fuel a1 a2 x2 x11 (0 : Int32) hh S8 HH
-- M:TreeAgentModel.limit(I)I
noncomputable def gM_limit  (a1 : Int32) (S : MS) : Option (Int32 × MS) :=
  sm_let (sI S 0 (0 : Int32)) fun S1 =>
  mc (gM_in (a1.toInt64) (100 : Int64) (1000 : Int64) S1) fun x2 S3 =>
  if x2 = 0 then (
    some ((-2 : Int32), S3)
  ) else
  sm_let (S3.1 5) fun x4 =>
  sm_let (sI S3 5 a1) fun S5 =>
  some (x4, S5)
set_option maxRecDepth 100000 in
set_option maxHeartbeats 4000000 in
theorem tM_limit_0 (m : Nat)    (a1 : Int32) (hh : sm_H) (S : MS) (HH : Mo hh m S) : z2 m (fX12_limit  m a1 hh) (gM_limit  a1 S) hh := by
  unfold fX12_limit gM_limit
  refine z2_pI HH (by decide) rfl (fun S1 hh HH => ?_)
  refine z2_cS (tM_in_0 m (a1.toInt64) (100 : Int64) (1000 : Int64) hh S1 HH) (fun x2 S3 hh HH => ?_)
  refine z2_ite ?_ ?_
  · exact z2_ret HH
  refine z2_gI HH (by decide) rfl (fun x4 => ?_)
  refine z2_pI HH (by decide) rfl (fun S5 hh HH => ?_)
  exact z2_ret HH
-- M:TreeAgentModel.tick(J)J
noncomputable def gM_tick  (a1 : Int64) (S : MS) : Option (Int64 × MS) :=
  sm_let (sI S 0 (0 : Int32)) fun S1 =>
  if (lg_cmp a1 (0 : Int64)) < 0 then (
    some ((-2 : Int64), S1)
  ) else
  sm_let S1.2.1 fun x2 =>
  if (lg_cmp a1 ((4611686018427387904 : Int64) - x2)) ≤ 0 then (
    sm_let S1.2.1 fun x3 =>
    sm_let (sC S1 (x3 + a1)) fun S4 =>
    sm_let S4.2.1 fun x5 =>
    some (x5, S4)
  ) else
  some ((-2 : Int64), S1)
set_option maxRecDepth 100000 in
set_option maxHeartbeats 4000000 in
theorem tM_tick_0 (m : Nat)    (a1 : Int64) (hh : sm_H) (S : MS) (HH : Mo hh m S) : z2 m (fX12_tick  m a1 hh) (gM_tick  a1 S) hh := by
  unfold fX12_tick gM_tick
  refine z2_pI HH (by decide) rfl (fun S1 hh HH => ?_)
  refine z2_ite ?_ ?_
  · exact z2_ret HH
  refine z2_gJ HH (fun x2 => ?_)
  refine z2_ite ?_ ?_
  · refine z2_gJ HH (fun x3 => ?_)
    refine z2_pJ HH (fun S4 hh HH => ?_)
    refine z2_gJ HH (fun x5 => ?_)
    exact z2_ret HH
  exact z2_ret HH
-- M:TreeAgentModel.octet(I)I
noncomputable def gM_octet  (a1 : Int32) (S : MS) : Option (Int32 × MS) :=
  sm_let (S.1 44) fun x1 =>
  if x1 < a1 then (
    sm_let (S.1 44) fun x2 =>
    sm_let (sI S 44 (x2 + (1 : Int32))) fun S3 =>
    sm_let (S3.1 44) fun x4 =>
    (mRI S3 1 3 (x4 - (1 : Int32))).bind fun x5 =>
    some (x5 &&& (255 : Int32), S3)
  ) else
  sm_let (S.1 45) fun x6 =>
  if x6 = 0 then (
    sm_let (sI S 45 (1 : Int32)) fun S9 =>
    some ((0 : Int32), S9)
  ) else
  sm_let (S.1 45) fun x7 =>
  sm_let (sI S 45 x7) fun S8 =>
  some ((0 : Int32), S8)
set_option maxRecDepth 100000 in
set_option maxHeartbeats 4000000 in
theorem tM_octet_0 (m : Nat)    (a1 : Int32) (hh : sm_H) (S : MS) (HH : Mo hh m S) : z2 m (fX12_octet  m a1 hh) (gM_octet  a1 S) hh := by
  unfold fX12_octet gM_octet
  refine z2_gI HH (by decide) rfl (fun x1 => ?_)
  refine z2_ite ?_ ?_
  · refine z2_gI HH (by decide) rfl (fun x2 => ?_)
    refine z2_pI HH (by decide) rfl (fun S3 hh HH => ?_)
    refine z2_gR HH (by decide) (by decide) ?_
    refine z2_gI HH (by decide) rfl (fun x4 => ?_)
    refine z2_aI HH (fun x5 => ?_)
    exact z2_ret HH
  refine z2_gI HH (by decide) rfl (fun x6 => ?_)
  refine z2_ite ?_ ?_
  · refine z2_pI HH (by decide) rfl (fun S9 hh HH => ?_)
    exact z2_ret HH
  refine z2_gI HH (by decide) rfl (fun x7 => ?_)
  refine z2_pI HH (by decide) rfl (fun S8 hh HH => ?_)
  exact z2_ret HH
-- M:TreeAgentModel.size(I)I
noncomputable def gM_size_114  (a2 : Int64) (S : MS) : Option (Int32 × MS) :=
  sm_let (S.1 45) fun x1 =>
  if x1 = 0 then (
    sm_let (S.1 44) fun x3 =>
    some (x3 + (a2.toInt32), S)
  ) else
  sm_let (S.1 44) fun x2 =>
  some (x2, S)
set_option maxRecDepth 100000 in
set_option maxHeartbeats 4000000 in
theorem tM_size_114 (m : Nat)    (a2 : Int64) (hh : sm_H) (S : MS) (HH : Mo hh m S) : z2 m (fX12_size_114  m a2 hh) (gM_size_114  a2 S) hh := by
  unfold fX12_size_114 gM_size_114
  refine z2_gI HH (by decide) rfl (fun x1 => ?_)
  refine z2_ite ?_ ?_
  · refine z2_gI HH (by decide) rfl (fun x3 => ?_)
    exact z2_ret HH
  refine z2_gI HH (by decide) rfl (fun x2 => ?_)
  exact z2_ret HH
noncomputable def gM_size_90  (a1 : Int32) (a2 : Int64) (S : MS) : Option (Int32 × MS) :=
  sm_let (S.1 45) fun x1 =>
  if x1 = 0 then (
    sm_let (S.1 44) fun x2 =>
    if (lg_cmp a2 ((a1 - x2).toInt64)) ≤ 0 then (
      gM_size_114 a2 S
    ) else
    sm_let (sI S 45 (1 : Int32)) fun S3 =>
    gM_size_114 a2 S3
  ) else
  gM_size_114 a2 S
set_option maxRecDepth 100000 in
set_option maxHeartbeats 4000000 in
theorem tM_size_90 (m : Nat)    (a1 : Int32) (a2 : Int64) (hh : sm_H) (S : MS) (HH : Mo hh m S) : z2 m (fX12_size_90  m a1 a2 hh) (gM_size_90  a1 a2 S) hh := by
  unfold fX12_size_90 gM_size_90
  refine z2_gI HH (by decide) rfl (fun x1 => ?_)
  refine z2_ite ?_ ?_
  · refine z2_gI HH (by decide) rfl (fun x2 => ?_)
    refine z2_ite ?_ ?_
    · exact tM_size_114 m  a2 hh S HH
    refine z2_pI HH (by decide) rfl (fun S3 hh HH => ?_)
    exact tM_size_114 m  a2 hh S3 HH
  exact tM_size_114 m  a2 hh S HH
noncomputable def gM_size_65  : Nat → Int32 → Int64 → Int32 → Int32 → MS → Option (Int32 × MS)
  | 0 => fun _ _ _ _ _ => none
  | n + 1 => fun a1 a2 a4 a5 S =>
    if a4 ≤ a5 then (
      gM_size_90 a1 a2 S
    ) else
    mc (gM_octet a1 S) fun x1 S2 =>
    sm_let ((a2 <<< ((8 : Int32).toInt64 &&& 63)) ||| (x1.toInt64)) fun x3 =>
    sm_let (a5 + (1 : Int32)) fun x4 =>
    (gM_size_65 n) a1 x3 a4 x4 S2
set_option maxRecDepth 100000 in
set_option maxHeartbeats 4000000 in
theorem tM_size_65 (m : Nat)    (n : Nat) : ∀ (a1 : Int32) (a2 : Int64) (a4 : Int32) (a5 : Int32) (hh : sm_H) (S : MS), Mo hh m S → z2 m (fX12_size_65  n m a1 a2 a4 a5 hh) (gM_size_65  n a1 a2 a4 a5 S) hh := by
  induction n with
  | zero => intro a1 a2 a4 a5 hh S HH; exact z2_none
  | succ n ih =>
    intro a1 a2 a4 a5 hh S HH
    unfold fX12_size_65 gM_size_65
    refine z2_ite ?_ ?_
    · exact tM_size_90 m  a1 a2 hh S HH
    refine z2_cV (F := fun b => fX12_octet b a1 hh) HH (tM_octet_0 m a1 hh S HH) (fun x1 S2 hh HH => ?_)
    refine z2_let (fun x3 => ?_)
    refine z2_let (fun x4 => ?_)
    exact ih a1 x3 a4 x4 hh S2 HH
noncomputable def gM_size  (a1 : Int32) (S : MS) : Option (Int32 × MS) :=
  mc (gM_octet a1 S) fun x1 S2 =>
  sm_let (x1.toInt64) fun x3 =>
  if (lg_cmp x3 (128 : Int64)) < 0 then (
    gM_size_90 a1 x3 S2
  ) else
  sm_let ((x3.toInt32) - (128 : Int32)) fun x4 =>
  mc (gM_in (x4.toInt64) (1 : Int64) (4 : Int64) S2) fun x5 S6 =>
  if x5 = 0 then (
    sm_let (S6.1 45) fun x7 =>
    if x7 = 0 then (
      sm_let (sI S6 45 (1 : Int32)) fun S11 =>
      sm_let (S11.1 44) fun x12 =>
      some (x12, S11)
    ) else
    sm_let (S6.1 45) fun x8 =>
    sm_let (sI S6 45 x8) fun S9 =>
    sm_let (S9.1 44) fun x10 =>
    some (x10, S9)
  ) else
  gM_size_65 sm_fuel a1 (0 : Int64) x4 (0 : Int32) S6
set_option maxRecDepth 100000 in
set_option maxHeartbeats 4000000 in
theorem tM_size_0 (m : Nat)    (a1 : Int32) (hh : sm_H) (S : MS) (HH : Mo hh m S) : z2 m (fX12_size  m a1 hh) (gM_size  a1 S) hh := by
  unfold fX12_size gM_size
  refine z2_cV (F := fun b => fX12_octet b a1 hh) HH (tM_octet_0 m a1 hh S HH) (fun x1 S2 hh HH => ?_)
  refine z2_let (fun x3 => ?_)
  refine z2_ite ?_ ?_
  · exact tM_size_90 m  a1 x3 hh S2 HH
  refine z2_let (fun x4 => ?_)
  refine z2_cS (tM_in_0 m (x4.toInt64) (1 : Int64) (4 : Int64) hh S2 HH) (fun x5 S6 hh HH => ?_)
  refine z2_ite ?_ ?_
  · refine z2_gI HH (by decide) rfl (fun x7 => ?_)
    refine z2_ite ?_ ?_
    · refine z2_pI HH (by decide) rfl (fun S11 hh HH => ?_)
      refine z2_gI HH (by decide) rfl (fun x12 => ?_)
      exact z2_ret HH
    refine z2_gI HH (by decide) rfl (fun x8 => ?_)
    refine z2_pI HH (by decide) rfl (fun S9 hh HH => ?_)
    refine z2_gI HH (by decide) rfl (fun x10 => ?_)
    exact z2_ret HH
  exact tM_size_65 m sm_fuel a1 (0 : Int64) x4 (0 : Int32) hh S6 HH
-- M:TreeAgentModel.field(II)I
noncomputable def gM_field  (a1 : Int32) (a2 : Int32) (S : MS) : Option (Int32 × MS) :=
  mc (gM_octet a2 S) fun x1 S2 =>
  sm_let (S2.1 45) fun x3 =>
  if x3 = 0 then (
    if x1 = a1 then (
      mc (gM_size a2 S2) fun x6 S7 =>
      some (x6, S7)
    ) else
    sm_let (sI S2 45 (1 : Int32)) fun S8 =>
    mc (gM_size a2 S8) fun x9 S10 =>
    some (x9, S10)
  ) else
  mc (gM_size a2 S2) fun x4 S5 =>
  some (x4, S5)
set_option maxRecDepth 100000 in
set_option maxHeartbeats 4000000 in
theorem tM_field_0 (m : Nat)    (a1 : Int32) (a2 : Int32) (hh : sm_H) (S : MS) (HH : Mo hh m S) : z2 m (fX12_field  m a1 a2 hh) (gM_field  a1 a2 S) hh := by
  unfold fX12_field gM_field
  refine z2_cV (F := fun b => fX12_octet b a2 hh) HH (tM_octet_0 m a2 hh S HH) (fun x1 S2 hh HH => ?_)
  refine z2_gI HH (by decide) rfl (fun x3 => ?_)
  refine z2_ite ?_ ?_
  · refine z2_ite ?_ ?_
    · refine z2_cV (F := fun b => fX12_size b a2 hh) HH (tM_size_0 m a2 hh S2 HH) (fun x6 S7 hh HH => ?_)
      exact z2_ret HH
    refine z2_pI HH (by decide) rfl (fun S8 hh HH => ?_)
    refine z2_cV (F := fun b => fX12_size b a2 hh) HH (tM_size_0 m a2 hh S8 HH) (fun x9 S10 hh HH => ?_)
    exact z2_ret HH
  refine z2_cV (F := fun b => fX12_size b a2 hh) HH (tM_size_0 m a2 hh S2 HH) (fun x4 S5 hh HH => ?_)
  exact z2_ret HH
-- M:TreeAgentModel.read(I)J
noncomputable def gM_read_151  (a4 : Int64) (s0 : Int32) (S : MS) : Option (Int64 × MS) :=
  if s0 = 0 then (
    sm_let (sI S 45 (1 : Int32)) fun S1 =>
    some (a4, S1)
  ) else
  sm_let (sI S 45 (0 : Int32)) fun S2 =>
  some (a4, S2)
set_option maxRecDepth 100000 in
set_option maxHeartbeats 4000000 in
theorem tM_read_151 (m : Nat)    (a4 : Int64) (s0 : Int32) (hh : sm_H) (S : MS) (HH : Mo hh m S) : z2 m (fX12_read_151  m a4 s0 hh) (gM_read_151  a4 s0 S) hh := by
  unfold fX12_read_151 gM_read_151
  refine z2_ite ?_ ?_
  · refine z2_pI HH (by decide) rfl (fun S1 hh HH => ?_)
    exact z2_ret HH
  refine z2_pI HH (by decide) rfl (fun S2 hh HH => ?_)
  exact z2_ret HH
noncomputable def gM_read_127  (a3 : Int32) (a4 : Int64) (s0 : Int32) (S : MS) : Option (Int64 × MS) :=
  if s0 = 0 ∨ s0 = 1 then (
  sm_let (sI S 58 s0) fun S1 =>
    if a3 = 0 then (
      gM_read_151 a4 (1 : Int32) S1
    ) else
    if a3 = (-1 : Int32) then (
      if 0 ≤ (lg_cmp a4 (0 : Int64)) then (
        gM_read_151 a4 (0 : Int32) S1
      ) else
      gM_read_151 a4 (1 : Int32) S1
    ) else
    gM_read_151 a4 (0 : Int32) S1
  ) else none
set_option maxRecDepth 100000 in
set_option maxHeartbeats 4000000 in
theorem tM_read_127 (m : Nat)    (a3 : Int32) (a4 : Int64) (s0 : Int32) (hh : sm_H) (S : MS) (HH : Mo hh m S) : z2 m (fX12_read_127  m a3 a4 s0 (some m) hh) (gM_read_127  a3 a4 s0 S) hh := by
  unfold fX12_read_127 gM_read_127
  refine z2_pZ HH (by decide) rfl (fun S1 hh HH => ?_)
  refine z2_ite ?_ ?_
  · exact tM_read_151 m  a4 (1 : Int32) hh S1 HH
  refine z2_ite ?_ ?_
  · refine z2_ite ?_ ?_
    · exact tM_read_151 m  a4 (0 : Int32) hh S1 HH
    exact tM_read_151 m  a4 (1 : Int32) hh S1 HH
  exact tM_read_151 m  a4 (0 : Int32) hh S1 HH
noncomputable def gM_read_57  : Nat → Int32 → Int32 → Int32 → Int64 → Int32 → MS → Option (Int64 × MS)
  | 0 => fun _ _ _ _ _ _ => none
  | n + 1 => fun a1 a2 a3 a4 a6 S =>
    if a2 ≤ a6 then (
      sm_let (sI S 44 a1) fun S1 =>
      if (0 : Int32) = 0 ∨ (0 : Int32) = 1 then (
      sm_let (sI S1 58 (0 : Int32)) fun S2 =>
        if a2 = (9 : Int32) then (
          if a3 = 0 then (
            if 0 ≤ (lg_cmp a4 (0 : Int64)) then (
              gM_read_127 a3 a4 (0 : Int32) S2
            ) else
            gM_read_127 a3 a4 (1 : Int32) S2
          ) else
          gM_read_127 a3 a4 (0 : Int32) S2
        ) else
        some (a4, S2)
      ) else none
    ) else
    sm_let (S.1 44) fun x3 =>
    (mRI S 1 3 (x3 + a6)).bind fun x4 =>
    sm_let ((a4 <<< ((8 : Int32).toInt64 &&& 63)) ||| ((x4 &&& (255 : Int32)).toInt64)) fun x5 =>
    sm_let (a6 + (1 : Int32)) fun x6 =>
    (gM_read_57 n) a1 a2 a3 x5 x6 S
set_option maxRecDepth 100000 in
set_option maxHeartbeats 4000000 in
theorem tM_read_57 (m : Nat)    (n : Nat) : ∀ (a1 : Int32) (a2 : Int32) (a3 : Int32) (a4 : Int64) (a6 : Int32) (hh : sm_H) (S : MS), Mo hh m S → z2 m (fX12_read_57  n m a1 a2 a3 a4 a6 hh) (gM_read_57  n a1 a2 a3 a4 a6 S) hh := by
  induction n with
  | zero => intro a1 a2 a3 a4 a6 hh S HH; exact z2_none
  | succ n ih =>
    intro a1 a2 a3 a4 a6 hh S HH
    unfold fX12_read_57 gM_read_57
    refine z2_ite ?_ ?_
    · refine z2_pI HH (by decide) rfl (fun S1 hh HH => ?_)
      refine z2_pZ HH (by decide) rfl (fun S2 hh HH => ?_)
      refine z2_ite ?_ ?_
      · refine z2_ite ?_ ?_
        · refine z2_ite ?_ ?_
          · exact tM_read_127 m  a3 a4 (0 : Int32) hh S2 HH
          exact tM_read_127 m  a3 a4 (1 : Int32) hh S2 HH
        exact tM_read_127 m  a3 a4 (0 : Int32) hh S2 HH
      exact z2_ret HH
    refine z2_gR HH (by decide) (by decide) ?_
    refine z2_gI HH (by decide) rfl (fun x3 => ?_)
    refine z2_aI HH (fun x4 => ?_)
    refine z2_let (fun x5 => ?_)
    refine z2_let (fun x6 => ?_)
    exact ih a1 a2 a3 x5 x6 hh S HH
noncomputable def gM_read_31  (a1 : Int32) (a2 : Int32) (S : MS) : Option (Int64 × MS) :=
  sm_let (S.1 45) fun x1 =>
  if x1 = 0 then (
    sm_let (S.1 44) fun x2 =>
    (mRI S 1 3 x2).bind fun x3 =>
    sm_let (x3.toInt64) fun x4 =>
    gM_read_57 sm_fuel a1 a2 x3 x4 (1 : Int32) S
  ) else
  some ((0 : Int64), S)
set_option maxRecDepth 100000 in
set_option maxHeartbeats 4000000 in
theorem tM_read_31 (m : Nat)    (a1 : Int32) (a2 : Int32) (hh : sm_H) (S : MS) (HH : Mo hh m S) : z2 m (fX12_read_31  m a1 a2 hh) (gM_read_31  a1 a2 S) hh := by
  unfold fX12_read_31 gM_read_31
  refine z2_gI HH (by decide) rfl (fun x1 => ?_)
  refine z2_ite ?_ ?_
  · refine z2_gR HH (by decide) (by decide) ?_
    refine z2_gI HH (by decide) rfl (fun x2 => ?_)
    refine z2_aI HH (fun x3 => ?_)
    refine z2_let (fun x4 => ?_)
    exact tM_read_57 m sm_fuel a1 a2 x3 x4 (1 : Int32) hh S HH
  exact z2_ret HH
noncomputable def gM_read  (a1 : Int32) (S : MS) : Option (Int64 × MS) :=
  sm_let (S.1 44) fun x1 =>
  sm_let (a1 - x1) fun x2 =>
  sm_let (S.1 45) fun x3 =>
  if x3 = 0 then (
    mc (gM_in (x2.toInt64) (1 : Int64) (9 : Int64) S) fun x4 S5 =>
    if x4 = 0 then (
      sm_let (sI S5 45 (1 : Int32)) fun S6 =>
      gM_read_31 a1 x2 S6
    ) else
    gM_read_31 a1 x2 S5
  ) else
  gM_read_31 a1 x2 S
set_option maxRecDepth 100000 in
set_option maxHeartbeats 4000000 in
theorem tM_read_0 (m : Nat)    (a1 : Int32) (hh : sm_H) (S : MS) (HH : Mo hh m S) : z2 m (fX12_read  m a1 hh) (gM_read  a1 S) hh := by
  unfold fX12_read gM_read
  refine z2_gI HH (by decide) rfl (fun x1 => ?_)
  refine z2_let (fun x2 => ?_)
  refine z2_gI HH (by decide) rfl (fun x3 => ?_)
  refine z2_ite ?_ ?_
  · refine z2_cS (tM_in_0 m (x2.toInt64) (1 : Int64) (9 : Int64) hh S HH) (fun x4 S5 hh HH => ?_)
    refine z2_ite ?_ ?_
    · refine z2_pI HH (by decide) rfl (fun S6 hh HH => ?_)
      exact tM_read_31 m  a1 x2 hh S6 HH
    exact tM_read_31 m  a1 x2 hh S5 HH
  exact tM_read_31 m  a1 x2 hh S HH
