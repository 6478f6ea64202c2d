-- M:TreeAgentModel.integer(I)I
noncomputable def gM_integer  (a1 : Int32) (S : MS) : Option (Int32 × MS) :=
  mc (gM_field (2 : Int32) a1 S) fun x1 S2 =>
  mc (gM_read x1 S2) fun x3 S4 =>
  sm_let (S4.1 45) fun x5 =>
  if x5 = 0 then (
    sm_let (S4.1 58) fun x6 =>
    if x6 = 0 then (
      mc (gM_in x3 (-2147483648 : Int64) (2147483647 : Int64) S4) fun x8 S9 =>
      if x8 = 0 then (
        sm_let (sI S9 45 (1 : Int32)) fun S10 =>
        some (x3.toInt32, S10)
      ) else
      some (x3.toInt32, S9)
    ) else
    sm_let (sI S4 45 (1 : Int32)) fun S7 =>
    some (x3.toInt32, S7)
  ) else
  some (x3.toInt32, S4)
set_option maxRecDepth 100000 in
set_option maxHeartbeats 4000000 in
theorem tM_integer_0 (m : Nat)    (a1 : Int32) (hh : sm_H) (S : MS) (HH : Mo hh m S) : z2 m (fX12_integer  m a1 hh) (gM_integer  a1 S) hh := by
  unfold fX12_integer gM_integer
  refine z2_cV (F := fun b => fX12_field b (2 : Int32) a1 hh) HH (tM_field_0 m (2 : Int32) a1 hh S HH) (fun x1 S2 hh HH => ?_)
  refine z2_cV (F := fun b => fX12_read b x1 hh) HH (tM_read_0 m x1 hh S2 HH) (fun x3 S4 hh HH => ?_)
  refine z2_gI HH (by decide) rfl (fun x5 => ?_)
  refine z2_ite ?_ ?_
  · refine z2_gI HH (by decide) rfl (fun x6 => ?_)
    refine z2_ite ?_ ?_
    · refine z2_cS (tM_in_0 m x3 (-2147483648 : Int64) (2147483647 : Int64) hh S4 HH) (fun x8 S9 hh HH => ?_)
      refine z2_ite ?_ ?_
      · refine z2_pI HH (by decide) rfl (fun S10 hh HH => ?_)
        exact z2_ret HH
      exact z2_ret HH
    refine z2_pI HH (by decide) rfl (fun S7 hh HH => ?_)
    exact z2_ret HH
  exact z2_ret HH
-- M:TreeAgentModel.readName(I[JI)I
noncomputable def gM_readName_226 (K23 : Int32 → Nat → Int32 → Int32 → MS → Option (Int32 × MS)) (a1 : Int32) (a2 : Nat) (a3 : Int32) (a4 : Int32) (a5 : Int64) (S : MS) : Option (Int32 × MS) :=
  sm_let (S.1 45) fun x1 =>
  if x1 = 0 then (
    (mWJ S a2 1 (a3 + a4) a5).bind fun S2 =>
    sm_let (a4 + (1 : Int32)) fun x3 =>
    K23 a1 a2 a3 x3 S2
  ) else
  K23 a1 a2 a3 a4 S
set_option maxRecDepth 100000 in
set_option maxHeartbeats 4000000 in
theorem tM_readName_226 (m : Nat) (J23 : Nat → Int32 → Option Nat → Int32 → Int32 → sm_H → Option (Int32 × sm_H)) (K23 : Int32 → Nat → Int32 → Int32 → MS → Option (Int32 × MS)) (hK23 : ∀ (a1 : Int32) (a2 : Nat) (a3 : Int32) (a4 : Int32) (h : sm_H) (S : MS), Mo h m S → z2 m (J23 m a1 (mR m a2) a3 a4 h) (K23 a1 a2 a3 a4 S) h) (a1 : Int32) (a2 : Nat) (a3 : Int32) (a4 : Int32) (a5 : Int64) (hh : sm_H) (S : MS) (HH : Mo hh m S) : z2 m (fX12_readName_226 J23 m a1 (mR m a2) a3 a4 a5 hh) (gM_readName_226 K23 a1 a2 a3 a4 a5 S) hh := by
  unfold fX12_readName_226 gM_readName_226
  refine z2_gI HH (by decide) rfl (fun x1 => ?_)
  refine z2_ite ?_ ?_
  · refine z2_sJ HH (fun S2 hh HH => ?_)
    refine z2_let (fun x3 => ?_)
    exact hK23 a1 a2 a3 x3 hh S2 HH
  exact hK23 a1 a2 a3 a4 hh S HH
noncomputable def gM_readName_188 (K23 : Int32 → Nat → Int32 → Int32 → MS → Option (Int32 × MS)) (a1 : Int32) (a2 : Nat) (a3 : Int32) (a4 : Int32) (a5 : Int64) (S : MS) : Option (Int32 × MS) :=
  sm_let (S.1 45) fun x1 =>
  if x1 = 0 then (
    if a4 = 0 then (
      if (40 : Int64) = 0 then none else
      (mWJ S a2 1 a3 (a5 / (40 : Int64))).bind fun S2 =>
      if (40 : Int64) = 0 then none else
      (mWJ S2 a2 1 (a3 + (1 : Int32)) (a5 - a5 / (40 : Int64) * (40 : Int64))).bind fun S3 =>
      K23 a1 a2 a3 (2 : Int32) S3
    ) else
    gM_readName_226 K23 a1 a2 a3 a4 a5 S
  ) else
  gM_readName_226 K23 a1 a2 a3 a4 a5 S
set_option maxRecDepth 100000 in
set_option maxHeartbeats 4000000 in
theorem tM_readName_188 (m : Nat) (J23 : Nat → Int32 → Option Nat → Int32 → Int32 → sm_H → Option (Int32 × sm_H)) (K23 : Int32 → Nat → Int32 → Int32 → MS → Option (Int32 × MS)) (hK23 : ∀ (a1 : Int32) (a2 : Nat) (a3 : Int32) (a4 : Int32) (h : sm_H) (S : MS), Mo h m S → z2 m (J23 m a1 (mR m a2) a3 a4 h) (K23 a1 a2 a3 a4 S) h) (a1 : Int32) (a2 : Nat) (a3 : Int32) (a4 : Int32) (a5 : Int64) (hh : sm_H) (S : MS) (HH : Mo hh m S) : z2 m (fX12_readName_188 J23 m a1 (mR m a2) a3 a4 a5 hh) (gM_readName_188 K23 a1 a2 a3 a4 a5 S) hh := by
  unfold fX12_readName_188 gM_readName_188
  refine z2_gI HH (by decide) rfl (fun x1 => ?_)
  refine z2_ite ?_ ?_
  · refine z2_ite ?_ ?_
    · refine z2_ite z2_none ?_
      refine z2_sJ HH (fun S2 hh HH => ?_)
      refine z2_ite z2_none ?_
      refine z2_sJ HH (fun S3 hh HH => ?_)
      exact hK23 a1 a2 a3 (2 : Int32) hh S3 HH
    exact tM_readName_226 m J23 K23 hK23 a1 a2 a3 a4 a5 hh S HH
  exact tM_readName_226 m J23 K23 hK23 a1 a2 a3 a4 a5 hh S HH
noncomputable def gM_readName_176 (K23 : Int32 → Nat → Int32 → Int32 → MS → Option (Int32 × MS)) (a1 : Int32) (a2 : Nat) (a3 : Int32) (a4 : Int32) (a5 : Int64) (S : MS) : Option (Int32 × MS) :=
  if a4 = (16 : Int32) then (
    sm_let (sI S 45 (1 : Int32)) fun S1 =>
    gM_readName_188 K23 a1 a2 a3 a4 a5 S1
  ) else
  gM_readName_188 K23 a1 a2 a3 a4 a5 S
set_option maxRecDepth 100000 in
set_option maxHeartbeats 4000000 in
theorem tM_readName_176 (m : Nat) (J23 : Nat → Int32 → Option Nat → Int32 → Int32 → sm_H → Option (Int32 × sm_H)) (K23 : Int32 → Nat → Int32 → Int32 → MS → Option (Int32 × MS)) (hK23 : ∀ (a1 : Int32) (a2 : Nat) (a3 : Int32) (a4 : Int32) (h : sm_H) (S : MS), Mo h m S → z2 m (J23 m a1 (mR m a2) a3 a4 h) (K23 a1 a2 a3 a4 S) h) (a1 : Int32) (a2 : Nat) (a3 : Int32) (a4 : Int32) (a5 : Int64) (hh : sm_H) (S : MS) (HH : Mo hh m S) : z2 m (fX12_readName_176 J23 m a1 (mR m a2) a3 a4 a5 hh) (gM_readName_176 K23 a1 a2 a3 a4 a5 S) hh := by
  unfold fX12_readName_176 gM_readName_176
  refine z2_ite ?_ ?_
  · refine z2_pI HH (by decide) rfl (fun S1 hh HH => ?_)
    exact tM_readName_188 m J23 K23 hK23 a1 a2 a3 a4 a5 hh S1 HH
  exact tM_readName_188 m J23 K23 hK23 a1 a2 a3 a4 a5 hh S HH
noncomputable def gM_readName_135 (K23 : Int32 → Nat → Int32 → Int32 → MS → Option (Int32 × MS)) (a1 : Int32) (a2 : Nat) (a3 : Int32) (a4 : Int32) (a5 : Int64) (a7 : Int32) (S : MS) : Option (Int32 × MS) :=
  sm_let ((a5 <<< ((7 : Int32).toInt64 &&& 63)) ||| (a7.toInt64)) fun x1 =>
  sm_let (S.1 45) fun x2 =>
  if x2 = 0 then (
    if 0 < (lg_cmp x1 (4294967295 : Int64)) then (
      sm_let (sI S 45 (1 : Int32)) fun S3 =>
      gM_readName_188 K23 a1 a2 a3 a4 x1 S3
    ) else
    if a4 = 0 then (
      if 0 < (lg_cmp x1 (119 : Int64)) then (
        sm_let (sI S 45 (1 : Int32)) fun S4 =>
        gM_readName_188 K23 a1 a2 a3 a4 x1 S4
      ) else
      gM_readName_176 K23 a1 a2 a3 a4 x1 S
    ) else
    gM_readName_176 K23 a1 a2 a3 a4 x1 S
  ) else
  gM_readName_188 K23 a1 a2 a3 a4 x1 S
set_option maxRecDepth 100000 in
set_option maxHeartbeats 4000000 in
theorem tM_readName_135 (m : Nat) (J23 : Nat → Int32 → Option Nat → Int32 → Int32 → sm_H → Option (Int32 × sm_H)) (K23 : Int32 → Nat → Int32 → Int32 → MS → Option (Int32 × MS)) (hK23 : ∀ (a1 : Int32) (a2 : Nat) (a3 : Int32) (a4 : Int32) (h : sm_H) (S : MS), Mo h m S → z2 m (J23 m a1 (mR m a2) a3 a4 h) (K23 a1 a2 a3 a4 S) h) (a1 : Int32) (a2 : Nat) (a3 : Int32) (a4 : Int32) (a5 : Int64) (a7 : Int32) (hh : sm_H) (S : MS) (HH : Mo hh m S) : z2 m (fX12_readName_135 J23 m a1 (mR m a2) a3 a4 a5 a7 hh) (gM_readName_135 K23 a1 a2 a3 a4 a5 a7 S) hh := by
  unfold fX12_readName_135 gM_readName_135
  refine z2_let (fun x1 => ?_)
  refine z2_gI HH (by decide) rfl (fun x2 => ?_)
  refine z2_ite ?_ ?_
  · refine z2_ite ?_ ?_
    · refine z2_pI HH (by decide) rfl (fun S3 hh HH => ?_)
      exact tM_readName_188 m J23 K23 hK23 a1 a2 a3 a4 x1 hh S3 HH
    refine z2_ite ?_ ?_
    · refine z2_ite ?_ ?_
      · refine z2_pI HH (by decide) rfl (fun S4 hh HH => ?_)
        exact tM_readName_188 m J23 K23 hK23 a1 a2 a3 a4 x1 hh S4 HH
      exact tM_readName_176 m J23 K23 hK23 a1 a2 a3 a4 x1 hh S HH
    exact tM_readName_176 m J23 K23 hK23 a1 a2 a3 a4 x1 hh S HH
  exact tM_readName_188 m J23 K23 hK23 a1 a2 a3 a4 x1 hh S HH
noncomputable def gM_readName_75 (K23 : Int32 → Nat → Int32 → Int32 → MS → Option (Int32 × MS)) : Nat → Int32 → Nat → Int32 → Int32 → Int64 → Int32 → MS → Option (Int32 × MS)
  | 0 => fun _ _ _ _ _ _ _ => none
  | n + 1 => fun a1 a2 a3 a4 a5 a7 S =>
    sm_let (S.1 45) fun x1 =>
    if x1 = 0 then (
      if a7 < (128 : Int32) then (
        gM_readName_135 K23 a1 a2 a3 a4 a5 a7 S
      ) else
      sm_let ((a5 <<< ((7 : Int32).toInt64 &&& 63)) ||| ((a7 &&& (127 : Int32)).toInt64)) fun x2 =>
      if (lg_cmp x2 (4294967295 : Int64)) ≤ 0 then (
        sm_let (S.1 45) fun x3 =>
        sm_let (sI S 45 x3) fun S4 =>
        mc (gM_octet a1 S4) fun x5 S6 =>
        (gM_readName_75 K23 n) a1 a2 a3 a4 x2 x5 S6
      ) else
      sm_let (sI S 45 (1 : Int32)) fun S7 =>
      mc (gM_octet a1 S7) fun x8 S9 =>
      (gM_readName_75 K23 n) a1 a2 a3 a4 x2 x8 S9
    ) else
    gM_readName_135 K23 a1 a2 a3 a4 a5 a7 S
set_option maxRecDepth 100000 in
set_option maxHeartbeats 4000000 in
theorem tM_readName_75 (m : Nat) (J23 : Nat → Int32 → Option Nat → Int32 → Int32 → sm_H → Option (Int32 × sm_H)) (K23 : Int32 → Nat → Int32 → Int32 → MS → Option (Int32 × MS)) (hK23 : ∀ (a1 : Int32) (a2 : Nat) (a3 : Int32) (a4 : Int32) (h : sm_H) (S : MS), Mo h m S → z2 m (J23 m a1 (mR m a2) a3 a4 h) (K23 a1 a2 a3 a4 S) h) (n : Nat) : ∀ (a1 : Int32) (a2 : Nat) (a3 : Int32) (a4 : Int32) (a5 : Int64) (a7 : Int32) (hh : sm_H) (S : MS), Mo hh m S → z2 m (fX12_readName_75 J23 n m a1 (mR m a2) a3 a4 a5 a7 hh) (gM_readName_75 K23 n a1 a2 a3 a4 a5 a7 S) hh := by
  induction n with
  | zero => intro a1 a2 a3 a4 a5 a7 hh S HH; exact z2_none
  | succ n ih =>
    intro a1 a2 a3 a4 a5 a7 hh S HH
    unfold fX12_readName_75 gM_readName_75
    refine z2_gI HH (by decide) rfl (fun x1 => ?_)
    refine z2_ite ?_ ?_
    · refine z2_ite ?_ ?_
      · exact tM_readName_135 m J23 K23 hK23 a1 a2 a3 a4 a5 a7 hh S HH
      refine z2_let (fun x2 => ?_)
      refine z2_ite ?_ ?_
      · refine z2_gI HH (by decide) rfl (fun x3 => ?_)
        refine z2_pI HH (by decide) rfl (fun S4 hh HH => ?_)
        refine z2_cV (F := fun b => fX12_octet b a1 hh) HH (tM_octet_0 m a1 hh S4 HH) (fun x5 S6 hh HH => ?_)
        exact ih a1 a2 a3 a4 x2 x5 hh S6 HH
      refine z2_pI HH (by decide) rfl (fun S7 hh HH => ?_)
      refine z2_cV (F := fun b => fX12_octet b a1 hh) HH (tM_octet_0 m a1 hh S7 HH) (fun x8 S9 hh HH => ?_)
      exact ih a1 a2 a3 a4 x2 x8 hh S9 HH
    exact tM_readName_135 m J23 K23 hK23 a1 a2 a3 a4 a5 a7 hh S HH
noncomputable def gM_readName_23  : Nat → Int32 → Nat → Int32 → Int32 → MS → Option (Int32 × MS)
  | 0 => fun _ _ _ _ _ => none
  | n + 1 => fun a1 a2 a3 a4 S =>
    sm_let (S.1 45) fun x1 =>
    if x1 = 0 then (
      sm_let (S.1 44) fun x2 =>
      if a1 ≤ x2 then (
        some (a4, S)
      ) else
      mc (gM_octet a1 S) fun x3 S4 =>
      sm_let (S4.1 45) fun x5 =>
      if x5 = 0 then (
        if x3 = (128 : Int32) then (
          sm_let (sI S4 45 (1 : Int32)) fun S10 =>
          gM_readName_75 (gM_readName_23 n) sm_fuel a1 a2 a3 a4 (0 : Int64) x3 S10
        ) else
        sm_let (S4.1 45) fun x8 =>
        sm_let (sI S4 45 x8) fun S9 =>
        gM_readName_75 (gM_readName_23 n) sm_fuel a1 a2 a3 a4 (0 : Int64) x3 S9
      ) else
      sm_let (S4.1 45) fun x6 =>
      sm_let (sI S4 45 x6) fun S7 =>
      gM_readName_75 (gM_readName_23 n) sm_fuel a1 a2 a3 a4 (0 : Int64) x3 S7
    ) else
    some (a4, S)
set_option maxRecDepth 100000 in
set_option maxHeartbeats 4000000 in
theorem tM_readName_23 (m : Nat)    (n : Nat) : ∀ (a1 : Int32) (a2 : Nat) (a3 : Int32) (a4 : Int32) (hh : sm_H) (S : MS), Mo hh m S → z2 m (fX12_readName_23  n m a1 (mR m a2) a3 a4 hh) (gM_readName_23  n a1 a2 a3 a4 S) hh := by
  induction n with
  | zero => intro a1 a2 a3 a4 hh S HH; exact z2_none
  | succ n ih =>
    intro a1 a2 a3 a4 hh S HH
    unfold fX12_readName_23 gM_readName_23
    refine z2_gI HH (by decide) rfl (fun x1 => ?_)
    refine z2_ite ?_ ?_
    · refine z2_gI HH (by decide) rfl (fun x2 => ?_)
      refine z2_ite ?_ ?_
      · exact z2_ret HH
      refine z2_cV (F := fun b => fX12_octet b a1 hh) HH (tM_octet_0 m a1 hh S HH) (fun x3 S4 hh HH => ?_)
      refine z2_gI HH (by decide) rfl (fun x5 => ?_)
      refine z2_ite ?_ ?_
      · refine z2_ite ?_ ?_
        · refine z2_pI HH (by decide) rfl (fun S10 hh HH => ?_)
          exact tM_readName_75 m (fX12_readName_23 n) (gM_readName_23 n) ih sm_fuel a1 a2 a3 a4 (0 : Int64) x3 hh S10 HH
        refine z2_gI HH (by decide) rfl (fun x8 => ?_)
        refine z2_pI HH (by decide) rfl (fun S9 hh HH => ?_)
        exact tM_readName_75 m (fX12_readName_23 n) (gM_readName_23 n) ih sm_fuel a1 a2 a3 a4 (0 : Int64) x3 hh S9 HH
      refine z2_gI HH (by decide) rfl (fun x6 => ?_)
      refine z2_pI HH (by decide) rfl (fun S7 hh HH => ?_)
      exact tM_readName_75 m (fX12_readName_23 n) (gM_readName_23 n) ih sm_fuel a1 a2 a3 a4 (0 : Int64) x3 hh S7 HH
    exact z2_ret HH
noncomputable def gM_readName  (a1 : Int32) (a2 : Nat) (a3 : Int32) (S : MS) : Option (Int32 × MS) :=
  sm_let (S.1 45) fun x1 =>
  if x1 = 0 then (
    sm_let (S.1 44) fun x2 =>
    if x2 = a1 then (
      sm_let (sI S 45 (1 : Int32)) fun S3 =>
      gM_readName_23 sm_fuel a1 a2 a3 (0 : Int32) S3
    ) else
    gM_readName_23 sm_fuel a1 a2 a3 (0 : Int32) S
  ) else
  gM_readName_23 sm_fuel a1 a2 a3 (0 : Int32) S
set_option maxRecDepth 100000 in
set_option maxHeartbeats 4000000 in
theorem tM_readName_0 (m : Nat)    (a1 : Int32) (a2 : Nat) (a3 : Int32) (hh : sm_H) (S : MS) (HH : Mo hh m S) : z2 m (fX12_readName  m a1 (mR m a2) a3 hh) (gM_readName  a1 a2 a3 S) hh := by
  unfold fX12_readName gM_readName
  refine z2_gI HH (by decide) rfl (fun x1 => ?_)
  refine z2_ite ?_ ?_
  · refine z2_gI HH (by decide) rfl (fun x2 => ?_)
    refine z2_ite ?_ ?_
    · refine z2_pI HH (by decide) rfl (fun S3 hh HH => ?_)
      exact tM_readName_23 m sm_fuel a1 a2 a3 (0 : Int32) hh S3 HH
    exact tM_readName_23 m sm_fuel a1 a2 a3 (0 : Int32) hh S HH
  exact tM_readName_23 m sm_fuel a1 a2 a3 (0 : Int32) hh S HH
-- M:TreeAgentModel.readValue(II)V
noncomputable def gM_readValue_364  (a1 : Int32) (a6 : Int64) (S : MS) : Option (Unit × MS) :=
  sm_let (S.1 45) fun x1 =>
  sm_let (sI S 45 x1) fun S2 =>
  (mWJ S2 39 1 a1 a6).bind fun S3 =>
  some ((), S3)
set_option maxRecDepth 100000 in
set_option maxHeartbeats 4000000 in
theorem tM_readValue_364 (m : Nat)    (a1 : Int32) (a6 : Int64) (hh : sm_H) (S : MS) (HH : Mo hh m S) : z2 m (fX12_readValue_364  m a1 a6 (some m) hh) (gM_readValue_364  a1 a6 S) hh := by
  unfold fX12_readValue_364 gM_readValue_364
  refine z2_gI HH (by decide) rfl (fun x1 => ?_)
  refine z2_pI HH (by decide) rfl (fun S2 hh HH => ?_)
  refine z2_gR HH (by decide) (by decide) ?_
  refine z2_sJ HH (fun S3 hh HH => ?_)
  exact z2_ret HH
noncomputable def gM_readValue_345  (a1 : Int32) (a6 : Int64) (s0 : Int32) (S : MS) : Option (Unit × MS) :=
  sm_let (S.1 45) fun x1 =>
  if x1 = 0 then (
    if s0 = 0 then (
      sm_let (sI S 45 (1 : Int32)) fun S2 =>
      (mWJ S2 39 1 a1 a6).bind fun S3 =>
      some ((), S3)
    ) else
    gM_readValue_364 a1 a6 S
  ) else
  gM_readValue_364 a1 a6 S
set_option maxRecDepth 100000 in
set_option maxHeartbeats 4000000 in
theorem tM_readValue_345 (m : Nat)    (a1 : Int32) (a6 : Int64) (s0 : Int32) (hh : sm_H) (S : MS) (HH : Mo hh m S) : z2 m (fX12_readValue_345  m a1 a6 s0 hh) (gM_readValue_345  a1 a6 s0 S) hh := by
  unfold fX12_readValue_345 gM_readValue_345
  refine z2_gI HH (by decide) rfl (fun x1 => ?_)
  refine z2_ite ?_ ?_
  · refine z2_ite ?_ ?_
    · refine z2_pI HH (by decide) rfl (fun S2 hh HH => ?_)
      refine z2_gR HH (by decide) (by decide) ?_
      refine z2_sJ HH (fun S3 hh HH => ?_)
      exact z2_ret HH
    exact tM_readValue_364 m  a1 a6 hh S HH
  exact tM_readValue_364 m  a1 a6 hh S HH
noncomputable def gM_readValue_84  : Nat → Int32 → Int32 → Int32 → Int32 → MS → Option (Unit × MS)
  | 0 => fun _ _ _ _ _ => none
  | n + 1 => fun a1 a4 a5 a6 S =>
    if a5 ≤ a6 then (
      (mWI S 41 0 a1 a5).bind fun S1 =>
      sm_let (sI S1 44 a4) fun S2 =>
      some ((), S2)
    ) else
    sm_let (S.1 44) fun x3 =>
    (mRI S 1 3 (x3 + a6)).bind fun x4 =>
    (mWI S 40 3 (((40 : Int32) * a1) + a6) (vp_nar .byte x4)).bind fun S5 =>
    sm_let (a6 + (1 : Int32)) fun x6 =>
    (gM_readValue_84 n) a1 a4 a5 x6 S5
set_option maxRecDepth 100000 in
set_option maxHeartbeats 4000000 in
theorem tM_readValue_84 (m : Nat)    (n : Nat) : ∀ (a1 : Int32) (a4 : Int32) (a5 : Int32) (a6 : Int32) (hh : sm_H) (S : MS), Mo hh m S → z2 m (fX12_readValue_84  n m a1 a4 a5 a6 hh) (gM_readValue_84  n a1 a4 a5 a6 S) hh := by
  induction n with
  | zero => intro a1 a4 a5 a6 hh S HH; exact z2_none
  | succ n ih =>
    intro a1 a4 a5 a6 hh S HH
    unfold fX12_readValue_84 gM_readValue_84
    refine z2_ite ?_ ?_
    · refine z2_gR HH (by decide) (by decide) ?_
      refine z2_sI HH (fun S1 hh HH => ?_)
      refine z2_pI HH (by decide) rfl (fun S2 hh HH => ?_)
      exact z2_ret HH
    refine z2_gR HH (by decide) (by decide) ?_
    refine z2_gR HH (by decide) (by decide) ?_
    refine z2_gI HH (by decide) rfl (fun x3 => ?_)
    refine z2_aI HH (fun x4 => ?_)
    refine z2_sI HH (fun S5 hh HH => ?_)
    refine z2_let (fun x6 => ?_)
    exact ih a1 a4 a5 x6 hh S5 HH
noncomputable def gM_readValue_213  : Nat → Int32 → Int32 → Int64 → Int32 → MS → Option (Unit × MS)
  | 0 => fun _ _ _ _ _ => none
  | n + 1 => fun a1 a4 a6 a8 S =>
    if (4 : Int32) ≤ a8 then (
      (mWJ S 39 1 a1 a6).bind fun S1 =>
      some ((), S1)
    ) else
    mc (gM_octet a4 S) fun x2 S3 =>
    sm_let ((a6 <<< ((8 : Int32).toInt64 &&& 63)) ||| (x2.toInt64)) fun x4 =>
    sm_let (a8 + (1 : Int32)) fun x5 =>
    (gM_readValue_213 n) a1 a4 x4 x5 S3
set_option maxRecDepth 100000 in
set_option maxHeartbeats 4000000 in
theorem tM_readValue_213 (m : Nat)    (n : Nat) : ∀ (a1 : Int32) (a4 : Int32) (a6 : Int64) (a8 : Int32) (hh : sm_H) (S : MS), Mo hh m S → z2 m (fX12_readValue_213  n m a1 a4 a6 a8 hh) (gM_readValue_213  n a1 a4 a6 a8 S) hh := by
  induction n with
  | zero => intro a1 a4 a6 a8 hh S HH; exact z2_none
  | succ n ih =>
    intro a1 a4 a6 a8 hh S HH
    unfold fX12_readValue_213 gM_readValue_213
    refine z2_ite ?_ ?_
    · refine z2_gR HH (by decide) (by decide) ?_
      refine z2_sJ HH (fun S1 hh HH => ?_)
      exact z2_ret HH
    refine z2_cV (F := fun b => fX12_octet b a4 hh) HH (tM_octet_0 m a4 hh S HH) (fun x2 S3 hh HH => ?_)
    refine z2_let (fun x4 => ?_)
    refine z2_let (fun x5 => ?_)
    exact ih a1 a4 x4 x5 hh S3 HH
noncomputable def gM_readValue_32  (a1 : Int32) (a2 : Int32) (a3 : Int32) (S : MS) : Option (Unit × MS) :=
  mc (gM_size a2 S) fun x1 S2 =>
  sm_let (S2.1 45) fun x3 =>
  if x3 = 0 then (
    (mWI S2 38 0 a1 a3).bind fun S4 =>
    sm_let (S4.1 44) fun x5 =>
    sm_let (x1 - x5) fun x6 =>
    if a3 = (4 : Int32) then (
      if x6 ≤ (40 : Int32) then (
        gM_readValue_84 sm_fuel a1 x1 x6 (0 : Int32) S4
      ) else
      sm_let (sI S4 45 (1 : Int32)) fun S22 =>
      some ((), S22)
    ) else
    if a3 = (5 : Int32) then (
      if x6 = 0 then (
        sm_let (sI S4 45 (0 : Int32)) fun S21 =>
        some ((), S21)
      ) else
      sm_let (sI S4 45 (1 : Int32)) fun S20 =>
      some ((), S20)
    ) else
    if a3 = (6 : Int32) then (
      mc (gM_readName x1 42 ((16 : Int32) * a1) S4) fun x17 S18 =>
      (mWI S18 43 0 a1 x17).bind fun S19 =>
      some ((), S19)
    ) else
    if a3 = (64 : Int32) then (
      if x6 = (4 : Int32) then (
        gM_readValue_213 sm_fuel a1 x1 (0 : Int64) (0 : Int32) S4
      ) else
      sm_let (sI S4 45 (1 : Int32)) fun S16 =>
      some ((), S16)
    ) else
    mc (gM_read x1 S4) fun x7 S8 =>
    if a3 = (2 : Int32) then (
      sm_let (S8.1 58) fun x13 =>
      if x13 = 0 then (
        mc (gM_in x7 (-2147483648 : Int64) (2147483647 : Int64) S8) fun x14 S15 =>
        if x14 = 0 then (
          gM_readValue_345 a1 x7 (0 : Int32) S15
        ) else
        gM_readValue_345 a1 x7 (1 : Int32) S15
      ) else
      gM_readValue_345 a1 x7 (0 : Int32) S8
    ) else
    if a3 = (70 : Int32) then (
      sm_let (S8.1 58) fun x12 =>
      if x12 = 0 then (
        if (lg_cmp x7 (0 : Int64)) < 0 then (
          gM_readValue_345 a1 x7 (0 : Int32) S8
        ) else
        gM_readValue_345 a1 x7 (1 : Int32) S8
      ) else
      gM_readValue_345 a1 x7 (1 : Int32) S8
    ) else
    sm_let (S8.1 58) fun x9 =>
    if x9 = 0 then (
      mc (gM_in x7 (0 : Int64) (4294967295 : Int64) S8) fun x10 S11 =>
      if x10 = 0 then (
        gM_readValue_345 a1 x7 (0 : Int32) S11
      ) else
      gM_readValue_345 a1 x7 (1 : Int32) S11
    ) else
    gM_readValue_345 a1 x7 (0 : Int32) S8
  ) else
  some ((), S2)
set_option maxRecDepth 100000 in
set_option maxHeartbeats 4000000 in
theorem tM_readValue_32 (m : Nat)    (a1 : Int32) (a2 : Int32) (a3 : Int32) (hh : sm_H) (S : MS) (HH : Mo hh m S) : z2 m (fX12_readValue_32  m a1 a2 a3 hh) (gM_readValue_32  a1 a2 a3 S) hh := by
  unfold fX12_readValue_32 gM_readValue_32
  refine z2_cV (F := fun b => fX12_size b a2 hh) HH (tM_size_0 m a2 hh S HH) (fun x1 S2 hh HH => ?_)
  refine z2_gI HH (by decide) rfl (fun x3 => ?_)
  refine z2_ite ?_ ?_
  · refine z2_gR HH (by decide) (by decide) ?_
    refine z2_sI HH (fun S4 hh HH => ?_)
    refine z2_gI HH (by decide) rfl (fun x5 => ?_)
    refine z2_let (fun x6 => ?_)
    refine z2_ite ?_ ?_
    · refine z2_ite ?_ ?_
      · exact tM_readValue_84 m sm_fuel a1 x1 x6 (0 : Int32) hh S4 HH
      refine z2_pI HH (by decide) rfl (fun S22 hh HH => ?_)
      exact z2_ret HH
    refine z2_ite ?_ ?_
    · refine z2_ite ?_ ?_
      · refine z2_pI HH (by decide) rfl (fun S21 hh HH => ?_)
        exact z2_ret HH
      refine z2_pI HH (by decide) rfl (fun S20 hh HH => ?_)
      exact z2_ret HH
    refine z2_ite ?_ ?_
    · refine z2_gR HH (by decide) (by decide) ?_
      refine z2_gR HH (by decide) (by decide) ?_
      refine z2_cV (F := fun b => fX12_readName b x1 (mR m 42) ((16 : Int32) * a1) hh) HH (tM_readName_0 m x1 42 ((16 : Int32) * a1) hh S4 HH) (fun x17 S18 hh HH => ?_)
      refine z2_sI HH (fun S19 hh HH => ?_)
      exact z2_ret HH
    refine z2_ite ?_ ?_
    · refine z2_ite ?_ ?_
      · exact tM_readValue_213 m sm_fuel a1 x1 (0 : Int64) (0 : Int32) hh S4 HH
      refine z2_pI HH (by decide) rfl (fun S16 hh HH => ?_)
      exact z2_ret HH
    refine z2_cV (F := fun b => fX12_read b x1 hh) HH (tM_read_0 m x1 hh S4 HH) (fun x7 S8 hh HH => ?_)
    refine z2_ite ?_ ?_
    · refine z2_gI HH (by decide) rfl (fun x13 => ?_)
      refine z2_ite ?_ ?_
      · refine z2_cS (tM_in_0 m x7 (-2147483648 : Int64) (2147483647 : Int64) hh S8 HH) (fun x14 S15 hh HH => ?_)
        refine z2_ite ?_ ?_
        · exact tM_readValue_345 m  a1 x7 (0 : Int32) hh S15 HH
        exact tM_readValue_345 m  a1 x7 (1 : Int32) hh S15 HH
      exact tM_readValue_345 m  a1 x7 (0 : Int32) hh S8 HH
    refine z2_ite ?_ ?_
    · refine z2_gI HH (by decide) rfl (fun x12 => ?_)
      refine z2_ite ?_ ?_
      · refine z2_ite ?_ ?_
        · exact tM_readValue_345 m  a1 x7 (0 : Int32) hh S8 HH
        exact tM_readValue_345 m  a1 x7 (1 : Int32) hh S8 HH
      exact tM_readValue_345 m  a1 x7 (1 : Int32) hh S8 HH
    refine z2_gI HH (by decide) rfl (fun x9 => ?_)
    refine z2_ite ?_ ?_
    · refine z2_cS (tM_in_0 m x7 (0 : Int64) (4294967295 : Int64) hh S8 HH) (fun x10 S11 hh HH => ?_)
      refine z2_ite ?_ ?_
      · exact tM_readValue_345 m  a1 x7 (0 : Int32) hh S11 HH
      exact tM_readValue_345 m  a1 x7 (1 : Int32) hh S11 HH
    exact tM_readValue_345 m  a1 x7 (0 : Int32) hh S8 HH
  exact z2_ret HH
noncomputable def gM_readValue  (a1 : Int32) (a2 : Int32) (S : MS) : Option (Unit × MS) :=
  mc (gM_octet a2 S) fun x1 S2 =>
  sm_let (S2.1 45) fun x3 =>
  if x3 = 0 then (
    if x1 = (5 : Int32) then (
      gM_readValue_32 a1 a2 x1 S2
    ) else
    mc (gM_isTag x1 S2) fun x4 S5 =>
    if x4 = 0 then (
      sm_let (sI S5 45 (1 : Int32)) fun S6 =>
      some ((), S6)
    ) else
    gM_readValue_32 a1 a2 x1 S5
  ) else
  some ((), S2)
set_option maxRecDepth 100000 in
set_option maxHeartbeats 4000000 in
theorem tM_readValue_0 (m : Nat)    (a1 : Int32) (a2 : Int32) (hh : sm_H) (S : MS) (HH : Mo hh m S) : z2 m (fX12_readValue  m a1 a2 hh) (gM_readValue  a1 a2 S) hh := by
  unfold fX12_readValue gM_readValue
  refine z2_cV (F := fun b => fX12_octet b a2 hh) HH (tM_octet_0 m a2 hh S HH) (fun x1 S2 hh HH => ?_)
  refine z2_gI HH (by decide) rfl (fun x3 => ?_)
  refine z2_ite ?_ ?_
  · refine z2_ite ?_ ?_
    · exact tM_readValue_32 m  a1 a2 x1 hh S2 HH
    refine z2_cS (tM_isTag_0 m x1 hh S2 HH) (fun x4 S5 hh HH => ?_)
    refine z2_ite ?_ ?_
    · refine z2_pI HH (by decide) rfl (fun S6 hh HH => ?_)
      exact z2_ret HH
    exact tM_readValue_32 m  a1 a2 x1 hh S5 HH
  exact z2_ret HH
-- M:TreeAgentModel.readRow(I)V
noncomputable def gM_readRow_78  (a2 : Int32) (S : MS) : Option (Unit × MS) :=
  sm_let (S.1 45) fun x1 =>
  if x1 = 0 then (
    sm_let (S.1 44) fun x4 =>
    if x4 = a2 then (
      sm_let (S.1 46) fun x5 =>
      sm_let (sI S 46 (x5 + (1 : Int32))) fun S6 =>
      some ((), S6)
    ) else
    sm_let (sI S 45 (1 : Int32)) fun S7 =>
    sm_let (S7.1 46) fun x8 =>
    sm_let (sI S7 46 (x8 + (1 : Int32))) fun S9 =>
    some ((), S9)
  ) else
  sm_let (S.1 46) fun x2 =>
  sm_let (sI S 46 (x2 + (1 : Int32))) fun S3 =>
  some ((), S3)
set_option maxRecDepth 100000 in
set_option maxHeartbeats 4000000 in
theorem tM_readRow_78 (m : Nat)    (a2 : Int32) (hh : sm_H) (S : MS) (HH : Mo hh m S) : z2 m (fX12_readRow_78  m a2 hh) (gM_readRow_78  a2 S) hh := by
  unfold fX12_readRow_78 gM_readRow_78
  refine z2_gI HH (by decide) rfl (fun x1 => ?_)
  refine z2_ite ?_ ?_
  · refine z2_gI HH (by decide) rfl (fun x4 => ?_)
    refine z2_ite ?_ ?_
    · refine z2_gI HH (by decide) rfl (fun x5 => ?_)
      refine z2_pI HH (by decide) rfl (fun S6 hh HH => ?_)
      exact z2_ret HH
    refine z2_pI HH (by decide) rfl (fun S7 hh HH => ?_)
    refine z2_gI HH (by decide) rfl (fun x8 => ?_)
    refine z2_pI HH (by decide) rfl (fun S9 hh HH => ?_)
    exact z2_ret HH
  refine z2_gI HH (by decide) rfl (fun x2 => ?_)
  refine z2_pI HH (by decide) rfl (fun S3 hh HH => ?_)
  exact z2_ret HH
noncomputable def gM_readRow_64  (a2 : Int32) (a4 : Int32) (S : MS) : Option (Unit × MS) :=
  sm_let (S.1 45) fun x1 =>
  if x1 = 0 then (
    mc (gM_readValue a4 a2 S) fun _ S3 =>
    gM_readRow_78 a2 S3
  ) else
  gM_readRow_78 a2 S
set_option maxRecDepth 100000 in
set_option maxHeartbeats 4000000 in
theorem tM_readRow_64 (m : Nat)    (a2 : Int32) (a4 : Int32) (hh : sm_H) (S : MS) (HH : Mo hh m S) : z2 m (fX12_readRow_64  m a2 a4 hh) (gM_readRow_64  a2 a4 S) hh := by
  unfold fX12_readRow_64 gM_readRow_64
  refine z2_gI HH (by decide) rfl (fun x1 => ?_)
  refine z2_ite ?_ ?_
  · refine z2_cV (F := fun b => fX12_readValue b a4 a2 hh) HH (tM_readValue_0 m a4 a2 hh S HH) (fun _ S3 hh HH => ?_)
    exact tM_readRow_78 m  a2 hh S3 HH
  exact tM_readRow_78 m  a2 hh S HH
noncomputable def gM_readRow_29  (a2 : Int32) (s0 : Int32) (S : MS) : Option (Unit × MS) :=
  sm_let (S.1 46) fun x1 =>
  sm_let (S.1 45) fun x2 =>
  if x2 = 0 then (
    mc (gM_readName s0 36 ((16 : Int32) * x1) S) fun x3 S4 =>
    (mWI S4 37 0 x1 x3).bind fun S5 =>
    gM_readRow_64 a2 x1 S5
  ) else
  gM_readRow_64 a2 x1 S
set_option maxRecDepth 100000 in
set_option maxHeartbeats 4000000 in
theorem tM_readRow_29 (m : Nat)    (a2 : Int32) (s0 : Int32) (hh : sm_H) (S : MS) (HH : Mo hh m S) : z2 m (fX12_readRow_29  m a2 s0 hh) (gM_readRow_29  a2 s0 S) hh := by
  unfold fX12_readRow_29 gM_readRow_29
  refine z2_gI HH (by decide) rfl (fun x1 => ?_)
  refine z2_gI HH (by decide) rfl (fun x2 => ?_)
  refine z2_ite ?_ ?_
  · refine z2_gR HH (by decide) (by decide) ?_
    refine z2_gR HH (by decide) (by decide) ?_
    refine z2_cV (F := fun b => fX12_readName b s0 (mR m 36) ((16 : Int32) * x1) hh) HH (tM_readName_0 m s0 36 ((16 : Int32) * x1) hh S HH) (fun x3 S4 hh HH => ?_)
    refine z2_sI HH (fun S5 hh HH => ?_)
    exact tM_readRow_64 m  a2 x1 hh S5 HH
  exact tM_readRow_64 m  a2 x1 hh S HH
noncomputable def gM_readRow  (a1 : Int32) (S : MS) : Option (Unit × MS) :=
  mc (gM_field (48 : Int32) a1 S) fun x1 S2 =>
  sm_let (S2.1 45) fun x3 =>
  if x3 = 0 then (
    mc (gM_field (6 : Int32) x1 S2) fun x5 S6 =>
    gM_readRow_29 x1 x5 S6
  ) else
  sm_let (S2.1 44) fun x4 =>
  gM_readRow_29 x1 x4 S2
set_option maxRecDepth 100000 in
set_option maxHeartbeats 4000000 in
theorem tM_readRow_0 (m : Nat)    (a1 : Int32) (hh : sm_H) (S : MS) (HH : Mo hh m S) : z2 m (fX12_readRow  m a1 hh) (gM_readRow  a1 S) hh := by
  unfold fX12_readRow gM_readRow
  refine z2_cV (F := fun b => fX12_field b (48 : Int32) a1 hh) HH (tM_field_0 m (48 : Int32) a1 hh S HH) (fun x1 S2 hh HH => ?_)
  refine z2_gI HH (by decide) rfl (fun x3 => ?_)
  refine z2_ite ?_ ?_
  · refine z2_cV (F := fun b => fX12_field b (6 : Int32) x1 hh) HH (tM_field_0 m (6 : Int32) x1 hh S2 HH) (fun x5 S6 hh HH => ?_)
    exact tM_readRow_29 m  x1 x5 hh S6 HH
  refine z2_gI HH (by decide) rfl (fun x4 => ?_)
  exact tM_readRow_29 m  x1 x4 hh S2 HH
-- M:TreeAgentModel.readAll(I)V
noncomputable def gM_readAll_456  (a1 : Int32) (a2 : Int32) (a4 : Int32) (S : MS) : Option (Unit × MS) :=
  sm_let (S.1 45) fun x1 =>
  if x1 = 0 then (
    sm_let (S.1 44) fun x2 =>
    if x2 = a4 then (
      sm_let (S.1 44) fun x4 =>
      if x4 = a2 then (
        sm_let (S.1 44) fun x6 =>
        if x6 = a1 then (
          some ((), S)
        ) else
        sm_let (sI S 45 (1 : Int32)) fun S7 =>
        some ((), S7)
      ) else
      sm_let (sI S 45 (1 : Int32)) fun S5 =>
      some ((), S5)
    ) else
    sm_let (sI S 45 (1 : Int32)) fun S3 =>
    some ((), S3)
  ) else
  some ((), S)
set_option maxRecDepth 100000 in
set_option maxHeartbeats 4000000 in
theorem tM_readAll_456 (m : Nat)    (a1 : Int32) (a2 : Int32) (a4 : Int32) (hh : sm_H) (S : MS) (HH : Mo hh m S) : z2 m (fX12_readAll_456  m a1 a2 a4 hh) (gM_readAll_456  a1 a2 a4 S) hh := by
  unfold fX12_readAll_456 gM_readAll_456
  refine z2_gI HH (by decide) rfl (fun x1 => ?_)
  refine z2_ite ?_ ?_
  · refine z2_gI HH (by decide) rfl (fun x2 => ?_)
    refine z2_ite ?_ ?_
    · refine z2_gI HH (by decide) rfl (fun x4 => ?_)
      refine z2_ite ?_ ?_
      · refine z2_gI HH (by decide) rfl (fun x6 => ?_)
        refine z2_ite ?_ ?_
        · exact z2_ret HH
        refine z2_pI HH (by decide) rfl (fun S7 hh HH => ?_)
        exact z2_ret HH
      refine z2_pI HH (by decide) rfl (fun S5 hh HH => ?_)
      exact z2_ret HH
    refine z2_pI HH (by decide) rfl (fun S3 hh HH => ?_)
    exact z2_ret HH
  exact z2_ret HH
noncomputable def gM_readAll_414  : Nat → Int32 → Int32 → Int32 → Int32 → MS → Option (Unit × MS)
  | 0 => fun _ _ _ _ _ => none
  | n + 1 => fun a1 a2 a4 a5 S =>
    sm_let (S.1 45) fun x1 =>
    if x1 = 0 then (
      sm_let (S.1 44) fun x2 =>
      if a5 ≤ x2 then (
        gM_readAll_456 a1 a2 a4 S
      ) else
      sm_let (S.1 46) fun x3 =>
      if x3 = (20 : Int32) then (
        sm_let (sI S 45 (1 : Int32)) fun S6 =>
        (gM_readAll_414 n) a1 a2 a4 a5 S6
      ) else
      mc (gM_readRow a5 S) fun _ S5 =>
      (gM_readAll_414 n) a1 a2 a4 a5 S5
    ) else
    gM_readAll_456 a1 a2 a4 S
set_option maxRecDepth 100000 in
set_option maxHeartbeats 4000000 in
theorem tM_readAll_414 (m : Nat)    (n : Nat) : ∀ (a1 : Int32) (a2 : Int32) (a4 : Int32) (a5 : Int32) (hh : sm_H) (S : MS), Mo hh m S → z2 m (fX12_readAll_414  n m a1 a2 a4 a5 hh) (gM_readAll_414  n a1 a2 a4 a5 S) hh := by
  induction n with
  | zero => intro a1 a2 a4 a5 hh S HH; exact z2_none
  | succ n ih =>
    intro a1 a2 a4 a5 hh S HH
    unfold fX12_readAll_414 gM_readAll_414
    refine z2_gI HH (by decide) rfl (fun x1 => ?_)
    refine z2_ite ?_ ?_
    · refine z2_gI HH (by decide) rfl (fun x2 => ?_)
      refine z2_ite ?_ ?_
      · exact tM_readAll_456 m  a1 a2 a4 hh S HH
      refine z2_gI HH (by decide) rfl (fun x3 => ?_)
      refine z2_ite ?_ ?_
      · refine z2_pI HH (by decide) rfl (fun S6 hh HH => ?_)
        exact ih a1 a2 a4 a5 hh S6 HH
      refine z2_cV (F := fun b => fX12_readRow b a5 hh) HH (tM_readRow_0 m a5 hh S HH) (fun _ S5 hh HH => ?_)
      exact ih a1 a2 a4 a5 hh S5 HH
    exact tM_readAll_456 m  a1 a2 a4 hh S HH
noncomputable def gM_readAll_387  (a1 : Int32) (a2 : Int32) (a4 : Int32) (s0 : Int32) (S : MS) : Option (Unit × MS) :=
  sm_let (S.1 45) fun x1 =>
  if x1 = 0 then (
    if s0 = a1 then (
      sm_let (S.1 45) fun x4 =>
      sm_let (sI S 45 x4) fun S5 =>
      gM_readAll_414 sm_fuel a1 a2 a4 s0 S5
    ) else
    sm_let (sI S 45 (1 : Int32)) fun S6 =>
    gM_readAll_414 sm_fuel a1 a2 a4 s0 S6
  ) else
  sm_let (S.1 45) fun x2 =>
  sm_let (sI S 45 x2) fun S3 =>
  gM_readAll_414 sm_fuel a1 a2 a4 s0 S3
set_option maxRecDepth 100000 in
set_option maxHeartbeats 4000000 in
theorem tM_readAll_387 (m : Nat)    (a1 : Int32) (a2 : Int32) (a4 : Int32) (s0 : Int32) (hh : sm_H) (S : MS) (HH : Mo hh m S) : z2 m (fX12_readAll_387  m a1 a2 a4 s0 hh) (gM_readAll_387  a1 a2 a4 s0 S) hh := by
  unfold fX12_readAll_387 gM_readAll_387
  refine z2_gI HH (by decide) rfl (fun x1 => ?_)
  refine z2_ite ?_ ?_
  · refine z2_ite ?_ ?_
    · refine z2_gI HH (by decide) rfl (fun x4 => ?_)
      refine z2_pI HH (by decide) rfl (fun S5 hh HH => ?_)
      exact tM_readAll_414 m sm_fuel a1 a2 a4 s0 hh S5 HH
    refine z2_pI HH (by decide) rfl (fun S6 hh HH => ?_)
    exact tM_readAll_414 m sm_fuel a1 a2 a4 s0 hh S6 HH
  refine z2_gI HH (by decide) rfl (fun x2 => ?_)
  refine z2_pI HH (by decide) rfl (fun S3 hh HH => ?_)
  exact tM_readAll_414 m sm_fuel a1 a2 a4 s0 hh S3 HH
noncomputable def gM_readAll_362  (a1 : Int32) (a2 : Int32) (a4 : Int32) (s0 : Int32) (S : MS) : Option (Unit × MS) :=
  sm_let (sI S 55 s0) fun S1 =>
  sm_let (S1.1 45) fun x2 =>
  if x2 = 0 then (
    mc (gM_field (48 : Int32) a4 S1) fun x4 S5 =>
    gM_readAll_387 a1 a2 a4 x4 S5
  ) else
  sm_let (S1.1 44) fun x3 =>
  gM_readAll_387 a1 a2 a4 x3 S1
set_option maxRecDepth 100000 in
set_option maxHeartbeats 4000000 in
theorem tM_readAll_362 (m : Nat)    (a1 : Int32) (a2 : Int32) (a4 : Int32) (s0 : Int32) (hh : sm_H) (S : MS) (HH : Mo hh m S) : z2 m (fX12_readAll_362  m a1 a2 a4 s0 (some m) hh) (gM_readAll_362  a1 a2 a4 s0 S) hh := by
  unfold fX12_readAll_362 gM_readAll_362
  refine z2_pI HH (by decide) rfl (fun S1 hh HH => ?_)
  refine z2_gI HH (by decide) rfl (fun x2 => ?_)
  refine z2_ite ?_ ?_
  · refine z2_cV (F := fun b => fX12_field b (48 : Int32) a4 hh) HH (tM_field_0 m (48 : Int32) a4 hh S1 HH) (fun x4 S5 hh HH => ?_)
    exact tM_readAll_387 m  a1 a2 a4 x4 hh S5 HH
  refine z2_gI HH (by decide) rfl (fun x3 => ?_)
  exact tM_readAll_387 m  a1 a2 a4 x3 hh S1 HH
noncomputable def gM_readAll_341  (a1 : Int32) (a2 : Int32) (a4 : Int32) (s0 : Int32) (S : MS) : Option (Unit × MS) :=
  sm_let (sI S 54 s0) fun S1 =>
  sm_let (S1.1 45) fun x2 =>
  if x2 = 0 then (
    mc (gM_integer a4 S1) fun x3 S4 =>
    gM_readAll_362 a1 a2 a4 x3 S4
  ) else
  gM_readAll_362 a1 a2 a4 (0 : Int32) S1
set_option maxRecDepth 100000 in
set_option maxHeartbeats 4000000 in
theorem tM_readAll_341 (m : Nat)    (a1 : Int32) (a2 : Int32) (a4 : Int32) (s0 : Int32) (hh : sm_H) (S : MS) (HH : Mo hh m S) : z2 m (fX12_readAll_341  m a1 a2 a4 s0 (some m) hh) (gM_readAll_341  a1 a2 a4 s0 S) hh := by
  unfold fX12_readAll_341 gM_readAll_341
  refine z2_pI HH (by decide) rfl (fun S1 hh HH => ?_)
  refine z2_gI HH (by decide) rfl (fun x2 => ?_)
  refine z2_ite ?_ ?_
  · refine z2_cV (F := fun b => fX12_integer b a4 hh) HH (tM_integer_0 m a4 hh S1 HH) (fun x3 S4 hh HH => ?_)
    exact tM_readAll_362 m  a1 a2 a4 x3 hh S4 HH
  exact tM_readAll_362 m  a1 a2 a4 (0 : Int32) hh S1 HH
noncomputable def gM_readAll_320  (a1 : Int32) (a2 : Int32) (a4 : Int32) (s0 : Int32) (S : MS) : Option (Unit × MS) :=
  sm_let (sI S 53 s0) fun S1 =>
  sm_let (S1.1 45) fun x2 =>
  if x2 = 0 then (
    mc (gM_integer a4 S1) fun x3 S4 =>
    gM_readAll_341 a1 a2 a4 x3 S4
  ) else
  gM_readAll_341 a1 a2 a4 (0 : Int32) S1
set_option maxRecDepth 100000 in
set_option maxHeartbeats 4000000 in
theorem tM_readAll_320 (m : Nat)    (a1 : Int32) (a2 : Int32) (a4 : Int32) (s0 : Int32) (hh : sm_H) (S : MS) (HH : Mo hh m S) : z2 m (fX12_readAll_320  m a1 a2 a4 s0 (some m) hh) (gM_readAll_320  a1 a2 a4 s0 S) hh := by
  unfold fX12_readAll_320 gM_readAll_320
  refine z2_pI HH (by decide) rfl (fun S1 hh HH => ?_)
  refine z2_gI HH (by decide) rfl (fun x2 => ?_)
  refine z2_ite ?_ ?_
  · refine z2_cV (F := fun b => fX12_integer b a4 hh) HH (tM_integer_0 m a4 hh S1 HH) (fun x3 S4 hh HH => ?_)
    exact tM_readAll_341 m  a1 a2 a4 x3 hh S4 HH
  exact tM_readAll_341 m  a1 a2 a4 (0 : Int32) hh S1 HH
noncomputable def gM_readAll_299  (a1 : Int32) (a2 : Int32) (a4 : Int32) (s0 : Int32) (S : MS) : Option (Unit × MS) :=
  sm_let (sI S 45 s0) fun S1 =>
  sm_let (S1.1 45) fun x2 =>
  if x2 = 0 then (
    mc (gM_integer a4 S1) fun x3 S4 =>
    gM_readAll_320 a1 a2 a4 x3 S4
  ) else
  gM_readAll_320 a1 a2 a4 (0 : Int32) S1
set_option maxRecDepth 100000 in
set_option maxHeartbeats 4000000 in
theorem tM_readAll_299 (m : Nat)    (a1 : Int32) (a2 : Int32) (a4 : Int32) (s0 : Int32) (hh : sm_H) (S : MS) (HH : Mo hh m S) : z2 m (fX12_readAll_299  m a1 a2 a4 s0 (some m) hh) (gM_readAll_299  a1 a2 a4 s0 S) hh := by
  unfold fX12_readAll_299 gM_readAll_299
  refine z2_pI HH (by decide) rfl (fun S1 hh HH => ?_)
  refine z2_gI HH (by decide) rfl (fun x2 => ?_)
  refine z2_ite ?_ ?_
  · refine z2_cV (F := fun b => fX12_integer b a4 hh) HH (tM_integer_0 m a4 hh S1 HH) (fun x3 S4 hh HH => ?_)
    exact tM_readAll_320 m  a1 a2 a4 x3 hh S4 HH
  exact tM_readAll_320 m  a1 a2 a4 (0 : Int32) hh S1 HH
noncomputable def gM_readAll_275  (a1 : Int32) (a2 : Int32) (s0 : Int32) (S : MS) : Option (Unit × MS) :=
  sm_let (S.1 45) fun x1 =>
  if x1 = 0 then (
    if s0 = a1 then (
      sm_let (S.1 45) fun x3 =>
      gM_readAll_299 a1 a2 s0 x3 S
    ) else
    gM_readAll_299 a1 a2 s0 (1 : Int32) S
  ) else
  sm_let (S.1 45) fun x2 =>
  gM_readAll_299 a1 a2 s0 x2 S
set_option maxRecDepth 100000 in
set_option maxHeartbeats 4000000 in
theorem tM_readAll_275 (m : Nat)    (a1 : Int32) (a2 : Int32) (s0 : Int32) (hh : sm_H) (S : MS) (HH : Mo hh m S) : z2 m (fX12_readAll_275  m a1 a2 s0 hh) (gM_readAll_275  a1 a2 s0 S) hh := by
  unfold fX12_readAll_275 gM_readAll_275
  refine z2_gI HH (by decide) rfl (fun x1 => ?_)
  refine z2_ite ?_ ?_
  · refine z2_ite ?_ ?_
    · refine z2_gI HH (by decide) rfl (fun x3 => ?_)
      exact tM_readAll_299 m  a1 a2 s0 x3 hh S HH
    exact tM_readAll_299 m  a1 a2 s0 (1 : Int32) hh S HH
  refine z2_gI HH (by decide) rfl (fun x2 => ?_)
  exact tM_readAll_299 m  a1 a2 s0 x2 hh S HH
noncomputable def gM_readAll_256  (a1 : Int32) (a2 : Int32) (S : MS) : Option (Unit × MS) :=
  sm_let (S.1 45) fun x1 =>
  if x1 = 0 then (
    mc (gM_size a2 S) fun x3 S4 =>
    gM_readAll_275 a1 a2 x3 S4
  ) else
  sm_let (S.1 44) fun x2 =>
  gM_readAll_275 a1 a2 x2 S
set_option maxRecDepth 100000 in
set_option maxHeartbeats 4000000 in
theorem tM_readAll_256 (m : Nat)    (a1 : Int32) (a2 : Int32) (hh : sm_H) (S : MS) (HH : Mo hh m S) : z2 m (fX12_readAll_256  m a1 a2 hh) (gM_readAll_256  a1 a2 S) hh := by
  unfold fX12_readAll_256 gM_readAll_256
  refine z2_gI HH (by decide) rfl (fun x1 => ?_)
  refine z2_ite ?_ ?_
  · refine z2_cV (F := fun b => fX12_size b a2 hh) HH (tM_size_0 m a2 hh S HH) (fun x3 S4 hh HH => ?_)
    exact tM_readAll_275 m  a1 a2 x3 hh S4 HH
  refine z2_gI HH (by decide) rfl (fun x2 => ?_)
  exact tM_readAll_275 m  a1 a2 x2 hh S HH
noncomputable def gM_readAll_141  (a1 : Int32) (a2 : Int32) (a3 : Int32) (S : MS) : Option (Unit × MS) :=
  sm_let (S.1 45) fun x1 =>
  if x1 = 0 then (
    sm_let (sI S 44 a3) fun S2 =>
    sm_let (S2.1 50) fun x3 =>
    sm_let (S2.1 51) fun x4 =>
    mc (gM_communityOf 1 x3 x4 S2) fun x5 S6 =>
    sm_let (sI S6 49 x5) fun S7 =>
    sm_let (S7.1 49) fun x8 =>
    if 0 ≤ x8 then (
      mc (gM_octet a2 S7) fun x9 S10 =>
      sm_let (sI S10 52 x9) fun S11 =>
      sm_let (S11.1 45) fun x12 =>
      if x12 = 0 then (
        sm_let (S11.1 52) fun x13 =>
        if x13 = (160 : Int32) then (
          gM_readAll_256 a1 a2 S11
        ) else
        sm_let (S11.1 52) fun x14 =>
        if x14 = (161 : Int32) then (
          gM_readAll_256 a1 a2 S11
        ) else
        sm_let (S11.1 52) fun x15 =>
        if x15 = (163 : Int32) then (
          gM_readAll_256 a1 a2 S11
        ) else
        sm_let (S11.1 52) fun x16 =>
        if x16 = (165 : Int32) then (
          sm_let (S11.1 48) fun x18 =>
          if x18 = (1 : Int32) then (
            gM_readAll_256 a1 a2 S11
          ) else
          sm_let (sI S11 45 (1 : Int32)) fun S19 =>
          gM_readAll_256 a1 a2 S19
        ) else
        sm_let (sI S11 45 (1 : Int32)) fun S17 =>
        gM_readAll_256 a1 a2 S17
      ) else
      gM_readAll_256 a1 a2 S11
    ) else
    sm_let (sI S7 45 (3 : Int32)) fun S20 =>
    some ((), S20)
  ) else
  some ((), S)
set_option maxRecDepth 100000 in
set_option maxHeartbeats 4000000 in
theorem tM_readAll_141 (m : Nat)    (a1 : Int32) (a2 : Int32) (a3 : Int32) (hh : sm_H) (S : MS) (HH : Mo hh m S) : z2 m (fX12_readAll_141  m a1 a2 a3 hh) (gM_readAll_141  a1 a2 a3 S) hh := by
  unfold fX12_readAll_141 gM_readAll_141
  refine z2_gI HH (by decide) rfl (fun x1 => ?_)
  refine z2_ite ?_ ?_
  · refine z2_pI HH (by decide) rfl (fun S2 hh HH => ?_)
    refine z2_gR HH (by decide) (by decide) ?_
    refine z2_gI HH (by decide) rfl (fun x3 => ?_)
    refine z2_gI HH (by decide) rfl (fun x4 => ?_)
    refine z2_cV (F := fun b => fX12_communityOf b (mR m 1) x3 x4 hh) HH (tM_communityOf_0 m 1 x3 x4 hh S2 HH) (fun x5 S6 hh HH => ?_)
    refine z2_pI HH (by decide) rfl (fun S7 hh HH => ?_)
    refine z2_gI HH (by decide) rfl (fun x8 => ?_)
    refine z2_ite ?_ ?_
    · refine z2_cV (F := fun b => fX12_octet b a2 hh) HH (tM_octet_0 m a2 hh S7 HH) (fun x9 S10 hh HH => ?_)
      refine z2_pI HH (by decide) rfl (fun S11 hh HH => ?_)
      refine z2_gI HH (by decide) rfl (fun x12 => ?_)
      refine z2_ite ?_ ?_
      · refine z2_gI HH (by decide) rfl (fun x13 => ?_)
        refine z2_ite ?_ ?_
        · exact tM_readAll_256 m  a1 a2 hh S11 HH
        refine z2_gI HH (by decide) rfl (fun x14 => ?_)
        refine z2_ite ?_ ?_
        · exact tM_readAll_256 m  a1 a2 hh S11 HH
        refine z2_gI HH (by decide) rfl (fun x15 => ?_)
        refine z2_ite ?_ ?_
        · exact tM_readAll_256 m  a1 a2 hh S11 HH
        refine z2_gI HH (by decide) rfl (fun x16 => ?_)
        refine z2_ite ?_ ?_
        · refine z2_gI HH (by decide) rfl (fun x18 => ?_)
          refine z2_ite ?_ ?_
          · exact tM_readAll_256 m  a1 a2 hh S11 HH
          refine z2_pI HH (by decide) rfl (fun S19 hh HH => ?_)
          exact tM_readAll_256 m  a1 a2 hh S19 HH
        refine z2_pI HH (by decide) rfl (fun S17 hh HH => ?_)
        exact tM_readAll_256 m  a1 a2 hh S17 HH
      exact tM_readAll_256 m  a1 a2 hh S11 HH
    refine z2_pI HH (by decide) rfl (fun S20 hh HH => ?_)
    exact z2_ret HH
  exact z2_ret HH
noncomputable def gM_readAll_101  (a1 : Int32) (a2 : Int32) (s0 : Int32) (S : MS) : Option (Unit × MS) :=
  sm_let (S.1 44) fun x1 =>
  sm_let (sI S 50 x1) fun S2 =>
  sm_let (S2.1 44) fun x3 =>
  sm_let (sI S2 51 (s0 - x3)) fun S4 =>
  sm_let (S4.1 45) fun x5 =>
  if x5 = 0 then (
    sm_let (S4.1 51) fun x6 =>
    if x6 ≤ (40 : Int32) then (
      gM_readAll_141 a1 a2 s0 S4
    ) else
    sm_let (sI S4 45 (1 : Int32)) fun S7 =>
    gM_readAll_141 a1 a2 s0 S7
  ) else
  gM_readAll_141 a1 a2 s0 S4
set_option maxRecDepth 100000 in
set_option maxHeartbeats 4000000 in
theorem tM_readAll_101 (m : Nat)    (a1 : Int32) (a2 : Int32) (s0 : Int32) (hh : sm_H) (S : MS) (HH : Mo hh m S) : z2 m (fX12_readAll_101  m a1 a2 s0 hh) (gM_readAll_101  a1 a2 s0 S) hh := by
  unfold fX12_readAll_101 gM_readAll_101
  refine z2_gI HH (by decide) rfl (fun x1 => ?_)
  refine z2_pI HH (by decide) rfl (fun S2 hh HH => ?_)
  refine z2_gI HH (by decide) rfl (fun x3 => ?_)
  refine z2_pI HH (by decide) rfl (fun S4 hh HH => ?_)
  refine z2_gI HH (by decide) rfl (fun x5 => ?_)
  refine z2_ite ?_ ?_
  · refine z2_gI HH (by decide) rfl (fun x6 => ?_)
    refine z2_ite ?_ ?_
    · exact tM_readAll_141 m  a1 a2 s0 hh S4 HH
    refine z2_pI HH (by decide) rfl (fun S7 hh HH => ?_)
    exact tM_readAll_141 m  a1 a2 s0 hh S7 HH
  exact tM_readAll_141 m  a1 a2 s0 hh S4 HH
noncomputable def gM_readAll_81  (a1 : Int32) (a2 : Int32) (S : MS) : Option (Unit × MS) :=
  sm_let (S.1 45) fun x1 =>
  if x1 = 0 then (
    mc (gM_field (4 : Int32) a2 S) fun x3 S4 =>
    gM_readAll_101 a1 a2 x3 S4
  ) else
  sm_let (S.1 44) fun x2 =>
  gM_readAll_101 a1 a2 x2 S
set_option maxRecDepth 100000 in
set_option maxHeartbeats 4000000 in
theorem tM_readAll_81 (m : Nat)    (a1 : Int32) (a2 : Int32) (hh : sm_H) (S : MS) (HH : Mo hh m S) : z2 m (fX12_readAll_81  m a1 a2 hh) (gM_readAll_81  a1 a2 S) hh := by
  unfold fX12_readAll_81 gM_readAll_81
  refine z2_gI HH (by decide) rfl (fun x1 => ?_)
  refine z2_ite ?_ ?_
  · refine z2_cV (F := fun b => fX12_field b (4 : Int32) a2 hh) HH (tM_field_0 m (4 : Int32) a2 hh S HH) (fun x3 S4 hh HH => ?_)
    exact tM_readAll_101 m  a1 a2 x3 hh S4 HH
  refine z2_gI HH (by decide) rfl (fun x2 => ?_)
  exact tM_readAll_101 m  a1 a2 x2 hh S HH
noncomputable def gM_readAll_44  (a1 : Int32) (a2 : Int32) (s0 : Int32) (S : MS) : Option (Unit × MS) :=
  sm_let (sI S 45 s0) fun S1 =>
  mc (gM_integer a2 S1) fun x2 S3 =>
  sm_let (sI S3 48 x2) fun S4 =>
  sm_let (S4.1 45) fun x5 =>
  if x5 = 0 then (
    sm_let (S4.1 48) fun x6 =>
    mc (gM_in (x6.toInt64) (0 : Int64) (1 : Int64) S4) fun x7 S8 =>
    if x7 = 0 then (
      sm_let (sI S8 45 (2 : Int32)) fun S9 =>
      gM_readAll_81 a1 a2 S9
    ) else
    gM_readAll_81 a1 a2 S8
  ) else
  gM_readAll_81 a1 a2 S4
set_option maxRecDepth 100000 in
set_option maxHeartbeats 4000000 in
theorem tM_readAll_44 (m : Nat)    (a1 : Int32) (a2 : Int32) (s0 : Int32) (hh : sm_H) (S : MS) (HH : Mo hh m S) : z2 m (fX12_readAll_44  m a1 a2 s0 (some m) hh) (gM_readAll_44  a1 a2 s0 S) hh := by
  unfold fX12_readAll_44 gM_readAll_44
  refine z2_pI HH (by decide) rfl (fun S1 hh HH => ?_)
  refine z2_cV (F := fun b => fX12_integer b a2 hh) HH (tM_integer_0 m a2 hh S1 HH) (fun x2 S3 hh HH => ?_)
  refine z2_pI HH (by decide) rfl (fun S4 hh HH => ?_)
  refine z2_gI HH (by decide) rfl (fun x5 => ?_)
  refine z2_ite ?_ ?_
  · refine z2_gI HH (by decide) rfl (fun x6 => ?_)
    refine z2_cS (tM_in_0 m (x6.toInt64) (0 : Int64) (1 : Int64) hh S4 HH) (fun x7 S8 hh HH => ?_)
    refine z2_ite ?_ ?_
    · refine z2_pI HH (by decide) rfl (fun S9 hh HH => ?_)
      exact tM_readAll_81 m  a1 a2 hh S9 HH
    exact tM_readAll_81 m  a1 a2 hh S8 HH
  exact tM_readAll_81 m  a1 a2 hh S4 HH
noncomputable def gM_readAll  (a1 : Int32) (S : MS) : Option (Unit × MS) :=
  sm_let (sI S 45 (0 : Int32)) fun S1 =>
  sm_let (sI S1 44 (0 : Int32)) fun S2 =>
  sm_let (sI S2 46 (0 : Int32)) fun S3 =>
  mc (gM_field (48 : Int32) a1 S3) fun x4 S5 =>
  sm_let (S5.1 45) fun x6 =>
  if x6 = 0 then (
    if x4 = a1 then (
      sm_let (S5.1 45) fun x8 =>
      gM_readAll_44 a1 x4 x8 S5
    ) else
    gM_readAll_44 a1 x4 (1 : Int32) S5
  ) else
  sm_let (S5.1 45) fun x7 =>
  gM_readAll_44 a1 x4 x7 S5
set_option maxRecDepth 100000 in
set_option maxHeartbeats 4000000 in
theorem tM_readAll_0 (m : Nat)    (a1 : Int32) (hh : sm_H) (S : MS) (HH : Mo hh m S) : z2 m (fX12_readAll  m a1 hh) (gM_readAll  a1 S) hh := by
  unfold fX12_readAll gM_readAll
  refine z2_pI HH (by decide) rfl (fun S1 hh HH => ?_)
  refine z2_pI HH (by decide) rfl (fun S2 hh HH => ?_)
  refine z2_pI HH (by decide) rfl (fun S3 hh HH => ?_)
  refine z2_cV (F := fun b => fX12_field b (48 : Int32) a1 hh) HH (tM_field_0 m (48 : Int32) a1 hh S3 HH) (fun x4 S5 hh HH => ?_)
  refine z2_gI HH (by decide) rfl (fun x6 => ?_)
  refine z2_ite ?_ ?_
  · refine z2_ite ?_ ?_
    · refine z2_gI HH (by decide) rfl (fun x8 => ?_)
      exact tM_readAll_44 m  a1 x4 x8 hh S5 HH
    exact tM_readAll_44 m  a1 x4 (1 : Int32) hh S5 HH
  refine z2_gI HH (by decide) rfl (fun x7 => ?_)
  exact tM_readAll_44 m  a1 x4 x7 hh S5 HH
