-- M:TreeAgentModel.inView([JII)Z
noncomputable def gM_inView_12  : Nat → Nat → Int32 → Int32 → Int32 → Int32 → MS → Option (Int32 × MS)
  | 0 => fun _ _ _ _ _ _ => none
  | n + 1 => fun a1 a2 a3 a4 a5 S =>
    sm_let (S.1 49) fun x1 =>
    sm_let (S.1 49) fun x2 =>
    (mRI S 32 0 x2).bind fun x3 =>
    if (((8 : Int32) * x1) + x3) ≤ a5 then (
      if a4 < 0 then (
        some ((1 : Int32), S)
      ) else
      (mRI S 35 2 a4).bind fun x4 =>
      if x4 = 0 then (
        some ((0 : Int32), S)
      ) else
      some ((1 : Int32), S)
    ) else
    (mRI S 34 0 a5).bind fun x5 =>
    mc (gM_begins a1 a2 a3 33 ((16 : Int32) * a5) x5 S) fun x6 S7 =>
    if x6 = 0 then (
      sm_let (a5 + (1 : Int32)) fun x8 =>
      (gM_inView_12 n) a1 a2 a3 a4 x8 S7
    ) else
    if a4 < 0 then (
      sm_let (a5 + (1 : Int32)) fun x9 =>
      (gM_inView_12 n) a1 a2 a3 a5 x9 S7
    ) else
    (mRI S7 34 0 a5).bind fun x10 =>
    (mRI S7 34 0 a4).bind fun x11 =>
    if x10 < x11 then (
      sm_let (a5 + (1 : Int32)) fun x12 =>
      (gM_inView_12 n) a1 a2 a3 a4 x12 S7
    ) else
    sm_let (a5 + (1 : Int32)) fun x13 =>
    (gM_inView_12 n) a1 a2 a3 a5 x13 S7
set_option maxRecDepth 100000 in
set_option maxHeartbeats 4000000 in
theorem tM_inView_12 (m : Nat)    (n : Nat) : ∀ (a1 : Nat) (a2 : Int32) (a3 : Int32) (a4 : Int32) (a5 : Int32) (hh : sm_H) (S : MS), Mo hh m S → z2 m (fX12_inView_12  n m (mR m a1) a2 a3 a4 a5 hh) (gM_inView_12  n a1 a2 a3 a4 a5 S) hh := by
  induction n with
  | zero => intro a1 a2 a3 a4 a5 hh S HH; exact z2_none
  | succ n ih =>
    intro a1 a2 a3 a4 a5 hh S HH
    unfold fX12_inView_12 gM_inView_12
    refine z2_gI HH (by decide) rfl (fun x1 => ?_)
    refine z2_gR HH (by decide) (by decide) ?_
    refine z2_gI HH (by decide) rfl (fun x2 => ?_)
    refine z2_aI HH (fun x3 => ?_)
    refine z2_ite ?_ ?_
    · refine z2_ite ?_ ?_
      · exact z2_ret HH
      refine z2_gR HH (by decide) (by decide) ?_
      refine z2_aI HH (fun x4 => ?_)
      refine z2_ite ?_ ?_
      · exact z2_ret HH
      exact z2_ret HH
    refine z2_gR HH (by decide) (by decide) ?_
    refine z2_gR HH (by decide) (by decide) ?_
    refine z2_aI HH (fun x5 => ?_)
    refine z2_cS (tM_begins_0 m a1 a2 a3 33 ((16 : Int32) * a5) x5 hh S HH) (fun x6 S7 hh HH => ?_)
    refine z2_ite ?_ ?_
    · refine z2_let (fun x8 => ?_)
      exact ih a1 a2 a3 a4 x8 hh S7 HH
    refine z2_ite ?_ ?_
    · refine z2_let (fun x9 => ?_)
      exact ih a1 a2 a3 a5 x9 hh S7 HH
    refine z2_gR HH (by decide) (by decide) ?_
    refine z2_aI HH (fun x10 => ?_)
    refine z2_gR HH (by decide) (by decide) ?_
    refine z2_aI HH (fun x11 => ?_)
    refine z2_ite ?_ ?_
    · refine z2_let (fun x12 => ?_)
      exact ih a1 a2 a3 a4 x12 hh S7 HH
    refine z2_let (fun x13 => ?_)
    exact ih a1 a2 a3 a5 x13 hh S7 HH
noncomputable def gM_inView  (a1 : Nat) (a2 : Int32) (a3 : Int32) (S : MS) : Option (Int32 × MS) :=
  sm_let (S.1 49) fun x1 =>
  sm_let ((8 : Int32) * x1) fun x2 =>
  gM_inView_12 sm_fuel a1 a2 a3 (-1 : Int32) x2 S
set_option maxRecDepth 100000 in
set_option maxHeartbeats 4000000 in
theorem tM_inView_0 (m : Nat)    (a1 : Nat) (a2 : Int32) (a3 : Int32) (hh : sm_H) (S : MS) (HH : Mo hh m S) : z2 m (fX12_inView  m (mR m a1) a2 a3 hh) (gM_inView  a1 a2 a3 S) hh := by
  unfold fX12_inView gM_inView
  refine z2_gI HH (by decide) rfl (fun x1 => ?_)
  refine z2_let (fun x2 => ?_)
  exact tM_inView_12 m sm_fuel a1 a2 a3 (-1 : Int32) x2 hh S HH
-- M:TreeAgentModel.nameOf(II)V
noncomputable def gM_nameOf_75  (a1 : Int32) (s0 : Int64) (s1 : Int32) (s2 : Nat) (S : MS) : Option (Unit × MS) :=
  (mWJ S s2 1 s1 s0).bind fun S1 =>
  (mRI S1 10 0 a1).bind fun x2 =>
  sm_let (sI S1 60 (x2 + (1 : Int32))) fun S3 =>
  some ((), S3)
set_option maxRecDepth 100000 in
set_option maxHeartbeats 4000000 in
theorem tM_nameOf_75 (m : Nat)    (a1 : Int32) (s0 : Int64) (s1 : Int32) (s2 : Nat) (hh : sm_H) (S : MS) (HH : Mo hh m S) : z2 m (fX12_nameOf_75  m a1 s0 s1 (mR m s2) hh) (gM_nameOf_75  a1 s0 s1 s2 S) hh := by
  unfold fX12_nameOf_75 gM_nameOf_75
  refine z2_sJ HH (fun S1 hh HH => ?_)
  refine z2_gR HH (by decide) (by decide) ?_
  refine z2_aI HH (fun x2 => ?_)
  refine z2_pI HH (by decide) rfl (fun S3 hh HH => ?_)
  exact z2_ret HH
noncomputable def gM_nameOf_2  : Nat → Int32 → Int32 → Int32 → MS → Option (Unit × MS)
  | 0 => fun _ _ _ _ => none
  | n + 1 => fun a1 a2 a3 S =>
    (mRI S 10 0 a1).bind fun x1 =>
    if x1 ≤ a3 then (
      (mRI S 10 0 a1).bind fun x2 =>
      (mRI S 15 0 a1).bind fun x3 =>
      if 0 ≤ x3 then (
        (mRI S 15 0 a1).bind fun x4 =>
        (mRI S 27 0 (((16 : Int32) * x4) + a2)).bind fun x5 =>
        gM_nameOf_75 a1 (x5.toInt64) x2 59 S
      ) else
      gM_nameOf_75 a1 (0 : Int64) x2 59 S
    ) else
    (mRJ S 9 1 (((16 : Int32) * a1) + a3)).bind fun x6 =>
    (mWJ S 59 1 a3 x6).bind fun S7 =>
    sm_let (a3 + (1 : Int32)) fun x8 =>
    (gM_nameOf_2 n) a1 a2 x8 S7
set_option maxRecDepth 100000 in
set_option maxHeartbeats 4000000 in
theorem tM_nameOf_2 (m : Nat)    (n : Nat) : ∀ (a1 : Int32) (a2 : Int32) (a3 : Int32) (hh : sm_H) (S : MS), Mo hh m S → z2 m (fX12_nameOf_2  n m a1 a2 a3 hh) (gM_nameOf_2  n a1 a2 a3 S) hh := by
  induction n with
  | zero => intro a1 a2 a3 hh S HH; exact z2_none
  | succ n ih =>
    intro a1 a2 a3 hh S HH
    unfold fX12_nameOf_2 gM_nameOf_2
    refine z2_gR HH (by decide) (by decide) ?_
    refine z2_aI HH (fun x1 => ?_)
    refine z2_ite ?_ ?_
    · refine z2_gR HH (by decide) (by decide) ?_
      refine z2_gR HH (by decide) (by decide) ?_
      refine z2_aI HH (fun x2 => ?_)
      refine z2_gR HH (by decide) (by decide) ?_
      refine z2_aI HH (fun x3 => ?_)
      refine z2_ite ?_ ?_
      · refine z2_gR HH (by decide) (by decide) ?_
        refine z2_gR HH (by decide) (by decide) ?_
        refine z2_aI HH (fun x4 => ?_)
        refine z2_aI HH (fun x5 => ?_)
        exact tM_nameOf_75 m  a1 (x5.toInt64) x2 59 hh S HH
      exact tM_nameOf_75 m  a1 (0 : Int64) x2 59 hh S HH
    refine z2_gR HH (by decide) (by decide) ?_
    refine z2_gR HH (by decide) (by decide) ?_
    refine z2_aJ HH (fun x6 => ?_)
    refine z2_sJ HH (fun S7 hh HH => ?_)
    refine z2_let (fun x8 => ?_)
    exact ih a1 a2 x8 hh S7 HH
noncomputable def gM_nameOf  (a1 : Int32) (a2 : Int32) (S : MS) : Option (Unit × MS) :=
  gM_nameOf_2 sm_fuel a1 a2 (0 : Int32) S
set_option maxRecDepth 100000 in
set_option maxHeartbeats 4000000 in
theorem tM_nameOf_0 (m : Nat)    (a1 : Int32) (a2 : Int32) (hh : sm_H) (S : MS) (HH : Mo hh m S) : z2 m (fX12_nameOf  m a1 a2 hh) (gM_nameOf  a1 a2 S) hh := by
  unfold fX12_nameOf gM_nameOf
  exact tM_nameOf_2 m sm_fuel a1 a2 (0 : Int32) hh S HH
-- M:TreeAgentModel.isThere(II)Z
noncomputable def gM_isThere  (a1 : Int32) (a2 : Int32) (S : MS) : Option (Int32 × MS) :=
  (mRI S 15 0 a1).bind fun x1 =>
  if 0 ≤ x1 then (
    (mRI S 15 0 a1).bind fun x2 =>
    (mRI S 27 0 (((16 : Int32) * x2) + a2)).bind fun x3 =>
    if x3 ≤ 0 then (
      some ((0 : Int32), S)
    ) else
    some ((1 : Int32), S)
  ) else
  if a2 = 0 then (
    some ((1 : Int32), S)
  ) else
  some ((0 : Int32), S)
set_option maxRecDepth 100000 in
set_option maxHeartbeats 4000000 in
theorem tM_isThere_0 (m : Nat)    (a1 : Int32) (a2 : Int32) (hh : sm_H) (S : MS) (HH : Mo hh m S) : z2 m (fX12_isThere  m a1 a2 hh) (gM_isThere  a1 a2 S) hh := by
  unfold fX12_isThere gM_isThere
  refine z2_gR HH (by decide) (by decide) ?_
  refine z2_aI HH (fun x1 => ?_)
  refine z2_ite ?_ ?_
  · refine z2_gR HH (by decide) (by decide) ?_
    refine z2_gR HH (by decide) (by decide) ?_
    refine z2_aI HH (fun x2 => ?_)
    refine z2_aI HH (fun x3 => ?_)
    refine z2_ite ?_ ?_
    · exact z2_ret HH
    exact z2_ret HH
  refine z2_ite ?_ ?_
  · exact z2_ret HH
  exact z2_ret HH
-- M:TreeAgentModel.objectOf([JIII)I
noncomputable def gM_objectOf_3  : Nat → Nat → Int32 → Int32 → Int32 → Int32 → MS → Option (Int32 × MS)
  | 0 => fun _ _ _ _ _ _ => none
  | n + 1 => fun a1 a2 a3 a4 a5 S =>
    sm_let (S.1 8) fun x1 =>
    if x1 ≤ a5 then (
      some ((-1 : Int32), S)
    ) else
    (mRI S 12 0 a5).bind fun x2 =>
    if x2 < a4 then (
      sm_let (a5 + (1 : Int32)) fun x3 =>
      (gM_objectOf_3 n) a1 a2 a3 a4 x3 S
    ) else
    (mRI S 10 0 a5).bind fun x4 =>
    mc (gM_begins a1 a2 a3 9 ((16 : Int32) * a5) x4 S) fun x5 S6 =>
    if x5 = 0 then (
      sm_let (a5 + (1 : Int32)) fun x7 =>
      (gM_objectOf_3 n) a1 a2 a3 a4 x7 S6
    ) else
    some (a5, S6)
set_option maxRecDepth 100000 in
set_option maxHeartbeats 4000000 in
theorem tM_objectOf_3 (m : Nat)    (n : Nat) : ∀ (a1 : Nat) (a2 : Int32) (a3 : Int32) (a4 : Int32) (a5 : Int32) (hh : sm_H) (S : MS), Mo hh m S → z2 m (fX12_objectOf_3  n m (mR m a1) a2 a3 a4 a5 hh) (gM_objectOf_3  n a1 a2 a3 a4 a5 S) hh := by
  induction n with
  | zero => intro a1 a2 a3 a4 a5 hh S HH; exact z2_none
  | succ n ih =>
    intro a1 a2 a3 a4 a5 hh S HH
    unfold fX12_objectOf_3 gM_objectOf_3
    refine z2_gI HH (by decide) rfl (fun x1 => ?_)
    refine z2_ite ?_ ?_
    · exact z2_ret HH
    refine z2_gR HH (by decide) (by decide) ?_
    refine z2_aI HH (fun x2 => ?_)
    refine z2_ite ?_ ?_
    · refine z2_let (fun x3 => ?_)
      exact ih a1 a2 a3 a4 x3 hh S HH
    refine z2_gR HH (by decide) (by decide) ?_
    refine z2_gR HH (by decide) (by decide) ?_
    refine z2_aI HH (fun x4 => ?_)
    refine z2_cS (tM_begins_0 m a1 a2 a3 9 ((16 : Int32) * a5) x4 hh S HH) (fun x5 S6 hh HH => ?_)
    refine z2_ite ?_ ?_
    · refine z2_let (fun x7 => ?_)
      exact ih a1 a2 a3 a4 x7 hh S6 HH
    exact z2_ret HH
noncomputable def gM_objectOf  (a1 : Nat) (a2 : Int32) (a3 : Int32) (a4 : Int32) (S : MS) : Option (Int32 × MS) :=
  gM_objectOf_3 sm_fuel a1 a2 a3 a4 (0 : Int32) S
set_option maxRecDepth 100000 in
set_option maxHeartbeats 4000000 in
theorem tM_objectOf_0 (m : Nat)    (a1 : Nat) (a2 : Int32) (a3 : Int32) (a4 : Int32) (hh : sm_H) (S : MS) (HH : Mo hh m S) : z2 m (fX12_objectOf  m (mR m a1) a2 a3 a4 hh) (gM_objectOf  a1 a2 a3 a4 S) hh := by
  unfold fX12_objectOf gM_objectOf
  exact tM_objectOf_3 m sm_fuel a1 a2 a3 a4 (0 : Int32) hh S HH
-- M:TreeAgentModel.copyName(II)V
noncomputable def gM_copyName_2  : Nat → Int32 → Int32 → Int32 → MS → Option (Unit × MS)
  | 0 => fun _ _ _ _ => none
  | n + 1 => fun a1 a2 a3 S =>
    (mRI S 37 0 a1).bind fun x1 =>
    if x1 ≤ a3 then (
      (mRI S 37 0 a1).bind fun x2 =>
      (mWI S 37 0 a2 x2).bind fun S3 =>
      some ((), S3)
    ) else
    (mRJ S 36 1 (((16 : Int32) * a1) + a3)).bind fun x4 =>
    (mWJ S 36 1 (((16 : Int32) * a2) + a3) x4).bind fun S5 =>
    sm_let (a3 + (1 : Int32)) fun x6 =>
    (gM_copyName_2 n) a1 a2 x6 S5
set_option maxRecDepth 100000 in
set_option maxHeartbeats 4000000 in
theorem tM_copyName_2 (m : Nat)    (n : Nat) : ∀ (a1 : Int32) (a2 : Int32) (a3 : Int32) (hh : sm_H) (S : MS), Mo hh m S → z2 m (fX12_copyName_2  n m a1 a2 a3 hh) (gM_copyName_2  n a1 a2 a3 S) hh := by
  induction n with
  | zero => intro a1 a2 a3 hh S HH; exact z2_none
  | succ n ih =>
    intro a1 a2 a3 hh S HH
    unfold fX12_copyName_2 gM_copyName_2
    refine z2_gR HH (by decide) (by decide) ?_
    refine z2_aI HH (fun x1 => ?_)
    refine z2_ite ?_ ?_
    · refine z2_gR HH (by decide) (by decide) ?_
      refine z2_gR HH (by decide) (by decide) ?_
      refine z2_aI HH (fun x2 => ?_)
      refine z2_sI HH (fun S3 hh HH => ?_)
      exact z2_ret HH
    refine z2_gR HH (by decide) (by decide) ?_
    refine z2_gR HH (by decide) (by decide) ?_
    refine z2_aJ HH (fun x4 => ?_)
    refine z2_sJ HH (fun S5 hh HH => ?_)
    refine z2_let (fun x6 => ?_)
    exact ih a1 a2 x6 hh S5 HH
noncomputable def gM_copyName  (a1 : Int32) (a2 : Int32) (S : MS) : Option (Unit × MS) :=
  gM_copyName_2 sm_fuel a1 a2 (0 : Int32) S
set_option maxRecDepth 100000 in
set_option maxHeartbeats 4000000 in
theorem tM_copyName_0 (m : Nat)    (a1 : Int32) (a2 : Int32) (hh : sm_H) (S : MS) (HH : Mo hh m S) : z2 m (fX12_copyName  m a1 a2 hh) (gM_copyName  a1 a2 S) hh := by
  unfold fX12_copyName gM_copyName
  exact tM_copyName_2 m sm_fuel a1 a2 (0 : Int32) hh S HH
-- M:TreeAgentModel.numberOf(II)J
noncomputable def gM_numberOf  (a1 : Int32) (a2 : Int32) (S : MS) : Option (Int64 × MS) :=
  (mRI S 11 0 a1).bind fun x1 =>
  if x1 = (67 : Int32) then (
    (mRI S 12 0 a1).bind fun x3 =>
    if x3 = (1 : Int32) then (
      (mRI S 15 0 a1).bind fun x5 =>
      if 0 ≤ x5 then (
        (mRJ S 17 1 a2).bind fun x6 =>
        some (x6, S)
      ) else
      sm_let S.2.1 fun x7 =>
      some (x7 &&& (4294967295 : Int64), S)
    ) else
    (mRJ S 17 1 a2).bind fun x4 =>
    some (x4, S)
  ) else
  (mRJ S 17 1 a2).bind fun x2 =>
  some (x2, S)
set_option maxRecDepth 100000 in
set_option maxHeartbeats 4000000 in
theorem tM_numberOf_0 (m : Nat)    (a1 : Int32) (a2 : Int32) (hh : sm_H) (S : MS) (HH : Mo hh m S) : z2 m (fX12_numberOf  m a1 a2 hh) (gM_numberOf  a1 a2 S) hh := by
  unfold fX12_numberOf gM_numberOf
  refine z2_gR HH (by decide) (by decide) ?_
  refine z2_aI HH (fun x1 => ?_)
  refine z2_ite ?_ ?_
  · refine z2_gR HH (by decide) (by decide) ?_
    refine z2_aI HH (fun x3 => ?_)
    refine z2_ite ?_ ?_
    · refine z2_gR HH (by decide) (by decide) ?_
      refine z2_aI HH (fun x5 => ?_)
      refine z2_ite ?_ ?_
      · refine z2_gR HH (by decide) (by decide) ?_
        refine z2_aJ HH (fun x6 => ?_)
        exact z2_ret HH
      refine z2_gJ HH (fun x7 => ?_)
      exact z2_ret HH
    refine z2_gR HH (by decide) (by decide) ?_
    refine z2_aJ HH (fun x4 => ?_)
    exact z2_ret HH
  refine z2_gR HH (by decide) (by decide) ?_
  refine z2_aJ HH (fun x2 => ?_)
  exact z2_ret HH
-- M:TreeAgentModel.tell(III)V
noncomputable def gM_tell_108  : Nat → Int32 → Int32 → Int32 → MS → Option (Unit × MS)
  | 0 => fun _ _ _ _ => none
  | n + 1 => fun a1 a4 a5 S =>
    (mRI S 21 0 a4).bind fun x1 =>
    if x1 ≤ a5 then (
      some ((), S)
    ) else
    (mRJ S 20 1 (((16 : Int32) * a4) + a5)).bind fun x2 =>
    (mWJ S 42 1 (((16 : Int32) * a1) + a5) x2).bind fun S3 =>
    sm_let (a5 + (1 : Int32)) fun x4 =>
    (gM_tell_108 n) a1 a4 x4 S3
set_option maxRecDepth 100000 in
set_option maxHeartbeats 4000000 in
theorem tM_tell_108 (m : Nat)    (n : Nat) : ∀ (a1 : Int32) (a4 : Int32) (a5 : Int32) (hh : sm_H) (S : MS), Mo hh m S → z2 m (fX12_tell_108  n m a1 a4 a5 hh) (gM_tell_108  n a1 a4 a5 S) hh := by
  induction n with
  | zero => intro a1 a4 a5 hh S HH; exact z2_none
  | succ n ih =>
    intro a1 a4 a5 hh S HH
    unfold fX12_tell_108 gM_tell_108
    refine z2_gR HH (by decide) (by decide) ?_
    refine z2_aI HH (fun x1 => ?_)
    refine z2_ite ?_ ?_
    · exact z2_ret HH
    refine z2_gR HH (by decide) (by decide) ?_
    refine z2_gR HH (by decide) (by decide) ?_
    refine z2_aJ HH (fun x2 => ?_)
    refine z2_sJ HH (fun S3 hh HH => ?_)
    refine z2_let (fun x4 => ?_)
    exact ih a1 a4 x4 hh S3 HH
noncomputable def gM_tell_49  : Nat → Int32 → Int32 → Int32 → MS → Option (Unit × MS)
  | 0 => fun _ _ _ _ => none
  | n + 1 => fun a1 a4 a5 S =>
    (mRI S 19 0 a4).bind fun x1 =>
    if x1 ≤ a5 then (
      (mRI S 21 0 a4).bind fun x2 =>
      (mWI S 43 0 a1 x2).bind fun S3 =>
      gM_tell_108 sm_fuel a1 a4 (0 : Int32) S3
    ) else
    (mRI S 18 3 (((40 : Int32) * a4) + a5)).bind fun x4 =>
    (mWI S 40 3 (((40 : Int32) * a1) + a5) (vp_nar .byte x4)).bind fun S5 =>
    sm_let (a5 + (1 : Int32)) fun x6 =>
    (gM_tell_49 n) a1 a4 x6 S5
set_option maxRecDepth 100000 in
set_option maxHeartbeats 4000000 in
theorem tM_tell_49 (m : Nat)    (n : Nat) : ∀ (a1 : Int32) (a4 : Int32) (a5 : Int32) (hh : sm_H) (S : MS), Mo hh m S → z2 m (fX12_tell_49  n m a1 a4 a5 hh) (gM_tell_49  n a1 a4 a5 S) hh := by
  induction n with
  | zero => intro a1 a4 a5 hh S HH; exact z2_none
  | succ n ih =>
    intro a1 a4 a5 hh S HH
    unfold fX12_tell_49 gM_tell_49
    refine z2_gR HH (by decide) (by decide) ?_
    refine z2_aI HH (fun x1 => ?_)
    refine z2_ite ?_ ?_
    · refine z2_gR HH (by decide) (by decide) ?_
      refine z2_gR HH (by decide) (by decide) ?_
      refine z2_aI HH (fun x2 => ?_)
      refine z2_sI HH (fun S3 hh HH => ?_)
      exact tM_tell_108 m sm_fuel a1 a4 (0 : Int32) hh S3 HH
    refine z2_gR HH (by decide) (by decide) ?_
    refine z2_gR HH (by decide) (by decide) ?_
    refine z2_aI HH (fun x4 => ?_)
    refine z2_sI HH (fun S5 hh HH => ?_)
    refine z2_let (fun x6 => ?_)
    exact ih a1 a4 x6 hh S5 HH
noncomputable def gM_tell  (a1 : Int32) (a2 : Int32) (a3 : Int32) (S : MS) : Option (Unit × MS) :=
  sm_let (((16 : Int32) * a2) + a3) fun x1 =>
  (mRI S 11 0 a2).bind fun x2 =>
  (mWI S 38 0 a1 x2).bind fun S3 =>
  mc (gM_numberOf a2 x1 S3) fun x4 S5 =>
  (mWJ S5 39 1 a1 x4).bind fun S6 =>
  (mRI S6 19 0 x1).bind fun x7 =>
  (mWI S6 41 0 a1 x7).bind fun S8 =>
  gM_tell_49 sm_fuel a1 x1 (0 : Int32) S8
set_option maxRecDepth 100000 in
set_option maxHeartbeats 4000000 in
theorem tM_tell_0 (m : Nat)    (a1 : Int32) (a2 : Int32) (a3 : Int32) (hh : sm_H) (S : MS) (HH : Mo hh m S) : z2 m (fX12_tell  m a1 a2 a3 hh) (gM_tell  a1 a2 a3 S) hh := by
  unfold fX12_tell gM_tell
  refine z2_let (fun x1 => ?_)
  refine z2_gR HH (by decide) (by decide) ?_
  refine z2_gR HH (by decide) (by decide) ?_
  refine z2_aI HH (fun x2 => ?_)
  refine z2_sI HH (fun S3 hh HH => ?_)
  refine z2_gR HH (by decide) (by decide) ?_
  refine z2_cV (F := fun b => fX12_numberOf b a2 x1 hh) HH (tM_numberOf_0 m a2 x1 hh S3 HH) (fun x4 S5 hh HH => ?_)
  refine z2_sJ HH (fun S6 hh HH => ?_)
  refine z2_gR HH (by decide) (by decide) ?_
  refine z2_gR HH (by decide) (by decide) ?_
  refine z2_aI HH (fun x7 => ?_)
  refine z2_sI HH (fun S8 hh HH => ?_)
  exact tM_tell_49 m sm_fuel a1 x1 (0 : Int32) hh S8 HH
-- M:TreeAgentModel.get(II)V
noncomputable def gM_get_155  (a2 : Int32) (a3 : Int32) (a4 : Int32) (S : MS) : Option (Unit × MS) :=
  if a3 < 0 then (
    (mWI S 38 0 a2 (128 : Int32)).bind fun S1 =>
    some ((), S1)
  ) else
  if a4 = 0 then (
    (mWI S 38 0 a2 (128 : Int32)).bind fun S2 =>
    some ((), S2)
  ) else
  (mWI S 38 0 a2 (129 : Int32)).bind fun S3 =>
  some ((), S3)
set_option maxRecDepth 100000 in
set_option maxHeartbeats 4000000 in
theorem tM_get_155 (m : Nat)    (a2 : Int32) (a3 : Int32) (a4 : Int32) (hh : sm_H) (S : MS) (HH : Mo hh m S) : z2 m (fX12_get_155  m a2 a3 a4 hh) (gM_get_155  a2 a3 a4 S) hh := by
  unfold fX12_get_155 gM_get_155
  refine z2_gR HH (by decide) (by decide) ?_
  refine z2_ite ?_ ?_
  · refine z2_sI HH (fun S1 hh HH => ?_)
    exact z2_ret HH
  refine z2_ite ?_ ?_
  · refine z2_sI HH (fun S2 hh HH => ?_)
    exact z2_ret HH
  refine z2_sI HH (fun S3 hh HH => ?_)
  exact z2_ret HH
noncomputable def gM_get_139  (a2 : Int32) (a3 : Int32) (a4 : Int32) (s0 : Int32) (S : MS) : Option (Unit × MS) :=
  if s0 < 0 then (
    gM_get_155 a2 a3 a4 S
  ) else
  mc (gM_tell a2 a3 s0 S) fun _ S2 =>
  some ((), S2)
set_option maxRecDepth 100000 in
set_option maxHeartbeats 4000000 in
theorem tM_get_139 (m : Nat)    (a2 : Int32) (a3 : Int32) (a4 : Int32) (s0 : Int32) (hh : sm_H) (S : MS) (HH : Mo hh m S) : z2 m (fX12_get_139  m a2 a3 a4 s0 hh) (gM_get_139  a2 a3 a4 s0 S) hh := by
  unfold fX12_get_139 gM_get_139
  refine z2_ite ?_ ?_
  · exact tM_get_155 m  a2 a3 a4 hh S HH
  refine z2_cV (F := fun b => fX12_tell b a2 a3 s0 hh) HH (tM_tell_0 m a2 a3 s0 hh S HH) (fun _ S2 hh HH => ?_)
  exact z2_ret HH
noncomputable def gM_get  (a1 : Int32) (a2 : Int32) (S : MS) : Option (Unit × MS) :=
  mc (gM_copyName a1 a2 S) fun _ S2 =>
  (mRI S2 37 0 a1).bind fun x3 =>
  mc (gM_objectOf 36 ((16 : Int32) * a1) x3 (1 : Int32) S2) fun x4 S5 =>
  (mRI S5 37 0 a1).bind fun x6 =>
  mc (gM_inView 36 ((16 : Int32) * a1) x6 S5) fun x7 S8 =>
  if x4 < 0 then (
    gM_get_155 a2 x4 x7 S8
  ) else
  if x7 = 0 then (
    gM_get_155 a2 x4 x7 S8
  ) else
  (mRI S8 37 0 a1).bind fun x9 =>
  (mRI S8 10 0 x4).bind fun x10 =>
  if x9 = (x10 + (1 : Int32)) then (
    (mRI S8 10 0 x4).bind fun x11 =>
    (mRJ S8 36 1 (((16 : Int32) * a1) + x11)).bind fun x12 =>
    (mRI S8 15 0 x4).bind fun x13 =>
    if 0 ≤ x13 then (
      if (lg_cmp x12 (2147483647 : Int64)) ≤ 0 then (
        (mRI S8 15 0 x4).bind fun x14 =>
        mc (gM_placeOf x14 x12 S8) fun x15 S16 =>
        gM_get_139 a2 x4 x7 x15 S16
      ) else
      gM_get_139 a2 x4 x7 (-1 : Int32) S8
    ) else
    if (lg_cmp x12 (0 : Int64)) = 0 then (
      gM_get_139 a2 x4 x7 (0 : Int32) S8
    ) else
    gM_get_139 a2 x4 x7 (-1 : Int32) S8
  ) else
  gM_get_155 a2 x4 x7 S8
set_option maxRecDepth 100000 in
set_option maxHeartbeats 4000000 in
theorem tM_get_0 (m : Nat)    (a1 : Int32) (a2 : Int32) (hh : sm_H) (S : MS) (HH : Mo hh m S) : z2 m (fX12_get  m a1 a2 hh) (gM_get  a1 a2 S) hh := by
  unfold fX12_get gM_get
  refine z2_cV (F := fun b => fX12_copyName b a1 a2 hh) HH (tM_copyName_0 m a1 a2 hh S HH) (fun _ S2 hh HH => ?_)
  refine z2_gR HH (by decide) (by decide) ?_
  refine z2_gR HH (by decide) (by decide) ?_
  refine z2_aI HH (fun x3 => ?_)
  refine z2_cV (F := fun b => fX12_objectOf b (mR m 36) ((16 : Int32) * a1) x3 (1 : Int32) hh) HH (tM_objectOf_0 m 36 ((16 : Int32) * a1) x3 (1 : Int32) hh S2 HH) (fun x4 S5 hh HH => ?_)
  refine z2_gR HH (by decide) (by decide) ?_
  refine z2_gR HH (by decide) (by decide) ?_
  refine z2_aI HH (fun x6 => ?_)
  refine z2_cV (F := fun b => fX12_inView b (mR m 36) ((16 : Int32) * a1) x6 hh) HH (tM_inView_0 m 36 ((16 : Int32) * a1) x6 hh S5 HH) (fun x7 S8 hh HH => ?_)
  refine z2_ite ?_ ?_
  · exact tM_get_155 m  a2 x4 x7 hh S8 HH
  refine z2_ite ?_ ?_
  · exact tM_get_155 m  a2 x4 x7 hh S8 HH
  refine z2_gR HH (by decide) (by decide) ?_
  refine z2_aI HH (fun x9 => ?_)
  refine z2_gR HH (by decide) (by decide) ?_
  refine z2_aI HH (fun x10 => ?_)
  refine z2_ite ?_ ?_
  · refine z2_gR HH (by decide) (by decide) ?_
    refine z2_gR HH (by decide) (by decide) ?_
    refine z2_aI HH (fun x11 => ?_)
    refine z2_aJ HH (fun x12 => ?_)
    refine z2_gR HH (by decide) (by decide) ?_
    refine z2_aI HH (fun x13 => ?_)
    refine z2_ite ?_ ?_
    · refine z2_ite ?_ ?_
      · refine z2_gR HH (by decide) (by decide) ?_
        refine z2_aI HH (fun x14 => ?_)
        refine z2_cV (F := fun b => fX12_placeOf b x14 x12 hh) HH (tM_placeOf_0 m x14 x12 hh S8 HH) (fun x15 S16 hh HH => ?_)
        exact tM_get_139 m  a2 x4 x7 x15 hh S16 HH
      exact tM_get_139 m  a2 x4 x7 (-1 : Int32) hh S8 HH
    refine z2_ite ?_ ?_
    · exact tM_get_139 m  a2 x4 x7 (0 : Int32) hh S8 HH
    exact tM_get_139 m  a2 x4 x7 (-1 : Int32) hh S8 HH
  exact tM_get_155 m  a2 x4 x7 hh S8 HH
-- M:TreeAgentModel.next(II)V
noncomputable def gM_next_228  : Nat → Int32 → Int32 → Int32 → Nat → Int32 → MS → Option (Unit × MS)
  | 0 => fun _ _ _ _ _ _ => none
  | n + 1 => fun a2 a3 a4 a5 a6 S =>
    sm_let (S.1 62) fun x1 =>
    if x1 ≤ a6 then (
      sm_let (S.1 62) fun x2 =>
      (mWI S 37 0 a2 x2).bind fun S3 =>
      mc (gM_tell a2 a3 a4 S3) fun _ S5 =>
      some ((), S5)
    ) else
    (mRJ S a5 1 a6).bind fun x6 =>
    (mWJ S 36 1 (((16 : Int32) * a2) + a6) x6).bind fun S7 =>
    sm_let (a6 + (1 : Int32)) fun x8 =>
    (gM_next_228 n) a2 a3 a4 a5 x8 S7
set_option maxRecDepth 100000 in
set_option maxHeartbeats 4000000 in
theorem tM_next_228 (m : Nat)    (n : Nat) : ∀ (a2 : Int32) (a3 : Int32) (a4 : Int32) (a5 : Nat) (a6 : Int32) (hh : sm_H) (S : MS), Mo hh m S → z2 m (fX12_next_228  n m a2 a3 a4 (mR m a5) a6 hh) (gM_next_228  n a2 a3 a4 a5 a6 S) hh := by
  induction n with
  | zero => intro a2 a3 a4 a5 a6 hh S HH; exact z2_none
  | succ n ih =>
    intro a2 a3 a4 a5 a6 hh S HH
    unfold fX12_next_228 gM_next_228
    refine z2_gI HH (by decide) rfl (fun x1 => ?_)
    refine z2_ite ?_ ?_
    · refine z2_gR HH (by decide) (by decide) ?_
      refine z2_gI HH (by decide) rfl (fun x2 => ?_)
      refine z2_sI HH (fun S3 hh HH => ?_)
      refine z2_cV (F := fun b => fX12_tell b a2 a3 a4 hh) HH (tM_tell_0 m a2 a3 a4 hh S3 HH) (fun _ S5 hh HH => ?_)
      exact z2_ret HH
    refine z2_gR HH (by decide) (by decide) ?_
    refine z2_aJ HH (fun x6 => ?_)
    refine z2_sJ HH (fun S7 hh HH => ?_)
    refine z2_let (fun x8 => ?_)
    exact ih a2 a3 a4 a5 x8 hh S7 HH
noncomputable def gM_next_166 (K14 : Int32 → Int32 → Int32 → Int32 → Nat → Int32 → MS → Option (Unit × MS)) (K26 : Int32 → Int32 → Int32 → Int32 → Nat → Int32 → Int32 → MS → Option (Unit × MS)) : Nat → Int32 → Int32 → Int32 → Int32 → Nat → Int32 → Int32 → Int32 → MS → Option (Unit × MS)
  | 0 => fun _ _ _ _ _ _ _ _ _ => none
  | n + 1 => fun a1 a2 a3 a4 a5 a6 a7 a9 S =>
    sm_let (S.1 60) fun x1 =>
    if x1 ≤ a9 then (
      sm_let (a7 + (1 : Int32)) fun x2 =>
      K26 a1 a2 a3 a4 a5 a6 x2 S
    ) else
    (mRJ S 59 1 a9).bind fun x3 =>
    (mWJ S a5 1 a9 x3).bind fun S4 =>
    sm_let (a9 + (1 : Int32)) fun x5 =>
    (gM_next_166 K14 K26 n) a1 a2 a3 a4 a5 a6 a7 x5 S4
set_option maxRecDepth 100000 in
set_option maxHeartbeats 4000000 in
theorem tM_next_166 (m : Nat) (J14 : Nat → Int32 → Int32 → Int32 → Int32 → Option Nat → Int32 → sm_H → Option (Unit × sm_H)) (J26 : Nat → Int32 → Int32 → Int32 → Int32 → Option Nat → Int32 → Int32 → sm_H → Option (Unit × sm_H)) (K14 : Int32 → Int32 → Int32 → Int32 → Nat → Int32 → MS → Option (Unit × MS)) (K26 : Int32 → Int32 → Int32 → Int32 → Nat → Int32 → Int32 → MS → Option (Unit × MS)) (hK14 : ∀ (a1 : Int32) (a2 : Int32) (a3 : Int32) (a4 : Int32) (a5 : Nat) (a6 : Int32) (h : sm_H) (S : MS), Mo h m S → z2 m (J14 m a1 a2 a3 a4 (mR m a5) a6 h) (K14 a1 a2 a3 a4 a5 a6 S) h) (hK26 : ∀ (a1 : Int32) (a2 : Int32) (a3 : Int32) (a4 : Int32) (a5 : Nat) (a6 : Int32) (a7 : Int32) (h : sm_H) (S : MS), Mo h m S → z2 m (J26 m a1 a2 a3 a4 (mR m a5) a6 a7 h) (K26 a1 a2 a3 a4 a5 a6 a7 S) h) (n : Nat) : ∀ (a1 : Int32) (a2 : Int32) (a3 : Int32) (a4 : Int32) (a5 : Nat) (a6 : Int32) (a7 : Int32) (a9 : Int32) (hh : sm_H) (S : MS), Mo hh m S → z2 m (fX12_next_166 J14 J26 n m a1 a2 a3 a4 (mR m a5) a6 a7 a9 hh) (gM_next_166 K14 K26 n a1 a2 a3 a4 a5 a6 a7 a9 S) hh := by
  induction n with
  | zero => intro a1 a2 a3 a4 a5 a6 a7 a9 hh S HH; exact z2_none
  | succ n ih =>
    intro a1 a2 a3 a4 a5 a6 a7 a9 hh S HH
    unfold fX12_next_166 gM_next_166
    refine z2_gI HH (by decide) rfl (fun x1 => ?_)
    refine z2_ite ?_ ?_
    · refine z2_let (fun x2 => ?_)
      exact hK26 a1 a2 a3 a4 a5 a6 x2 hh S HH
    refine z2_gR HH (by decide) (by decide) ?_
    refine z2_aJ HH (fun x3 => ?_)
    refine z2_sJ HH (fun S4 hh HH => ?_)
    refine z2_let (fun x5 => ?_)
    exact ih a1 a2 a3 a4 a5 a6 a7 x5 hh S4 HH
noncomputable def gM_next_132 (K14 : Int32 → Int32 → Int32 → Int32 → Nat → Int32 → MS → Option (Unit × MS)) (K26 : Int32 → Int32 → Int32 → Int32 → Nat → Int32 → Int32 → MS → Option (Unit × MS)) (a1 : Int32) (a2 : Int32) (a3 : Int32) (a4 : Int32) (a5 : Nat) (a6 : Int32) (a7 : Int32) (S : MS) : Option (Unit × MS) :=
  sm_let (S.1 60) fun x1 =>
  mc (gM_inView 59 (0 : Int32) x1 S) fun x2 S3 =>
  if x2 = 0 then (
    sm_let (a7 + (1 : Int32)) fun x4 =>
    K26 a1 a2 a3 a4 a5 a6 x4 S3
  ) else
  sm_let (S3.1 60) fun x5 =>
  sm_let (sI S3 62 x5) fun S6 =>
  gM_next_166 K14 K26 sm_fuel a1 a2 a6 a7 a5 a6 a7 (0 : Int32) S6
set_option maxRecDepth 100000 in
set_option maxHeartbeats 4000000 in
theorem tM_next_132 (m : Nat) (J14 : Nat → Int32 → Int32 → Int32 → Int32 → Option Nat → Int32 → sm_H → Option (Unit × sm_H)) (J26 : Nat → Int32 → Int32 → Int32 → Int32 → Option Nat → Int32 → Int32 → sm_H → Option (Unit × sm_H)) (K14 : Int32 → Int32 → Int32 → Int32 → Nat → Int32 → MS → Option (Unit × MS)) (K26 : Int32 → Int32 → Int32 → Int32 → Nat → Int32 → Int32 → MS → Option (Unit × MS)) (hK14 : ∀ (a1 : Int32) (a2 : Int32) (a3 : Int32) (a4 : Int32) (a5 : Nat) (a6 : Int32) (h : sm_H) (S : MS), Mo h m S → z2 m (J14 m a1 a2 a3 a4 (mR m a5) a6 h) (K14 a1 a2 a3 a4 a5 a6 S) h) (hK26 : ∀ (a1 : Int32) (a2 : Int32) (a3 : Int32) (a4 : Int32) (a5 : Nat) (a6 : Int32) (a7 : Int32) (h : sm_H) (S : MS), Mo h m S → z2 m (J26 m a1 a2 a3 a4 (mR m a5) a6 a7 h) (K26 a1 a2 a3 a4 a5 a6 a7 S) h) (a1 : Int32) (a2 : Int32) (a3 : Int32) (a4 : Int32) (a5 : Nat) (a6 : Int32) (a7 : Int32) (hh : sm_H) (S : MS) (HH : Mo hh m S) : z2 m (fX12_next_132 J14 J26 m a1 a2 a3 a4 (mR m a5) a6 a7 hh) (gM_next_132 K14 K26 a1 a2 a3 a4 a5 a6 a7 S) hh := by
  unfold fX12_next_132 gM_next_132
  refine z2_gR HH (by decide) (by decide) ?_
  refine z2_gI HH (by decide) rfl (fun x1 => ?_)
  refine z2_cV (F := fun b => fX12_inView b (mR m 59) (0 : Int32) x1 hh) HH (tM_inView_0 m 59 (0 : Int32) x1 hh S HH) (fun x2 S3 hh HH => ?_)
  refine z2_ite ?_ ?_
  · refine z2_let (fun x4 => ?_)
    exact hK26 a1 a2 a3 a4 a5 a6 x4 hh S3 HH
  refine z2_gI HH (by decide) rfl (fun x5 => ?_)
  refine z2_pI HH (by decide) rfl (fun S6 hh HH => ?_)
  exact tM_next_166 m J14 J26 K14 K26 hK14 hK26 sm_fuel a1 a2 a6 a7 a5 a6 a7 (0 : Int32) hh S6 HH
noncomputable def gM_next_99 (K14 : Int32 → Int32 → Int32 → Int32 → Nat → Int32 → MS → Option (Unit × MS)) (K26 : Int32 → Int32 → Int32 → Int32 → Nat → Int32 → Int32 → MS → Option (Unit × MS)) (a1 : Int32) (a2 : Int32) (a3 : Int32) (a4 : Int32) (a5 : Nat) (a6 : Int32) (a7 : Int32) (s0 : Int32) (S : MS) : Option (Unit × MS) :=
  if s0 = 0 then (
    sm_let (a7 + (1 : Int32)) fun x1 =>
    K26 a1 a2 a3 a4 a5 a6 x1 S
  ) else
  if a3 < 0 then (
    gM_next_132 K14 K26 a1 a2 a3 a4 a5 a6 a7 S
  ) else
  sm_let (S.1 60) fun x2 =>
  sm_let (S.1 62) fun x3 =>
  mc (gM_order 59 (0 : Int32) x2 a5 (0 : Int32) x3 S) fun x4 S5 =>
  if 0 ≤ x4 then (
    sm_let (a7 + (1 : Int32)) fun x6 =>
    K26 a1 a2 a3 a4 a5 a6 x6 S5
  ) else
  gM_next_132 K14 K26 a1 a2 a3 a4 a5 a6 a7 S5
set_option maxRecDepth 100000 in
set_option maxHeartbeats 4000000 in
theorem tM_next_99 (m : Nat) (J14 : Nat → Int32 → Int32 → Int32 → Int32 → Option Nat → Int32 → sm_H → Option (Unit × sm_H)) (J26 : Nat → Int32 → Int32 → Int32 → Int32 → Option Nat → Int32 → Int32 → sm_H → Option (Unit × sm_H)) (K14 : Int32 → Int32 → Int32 → Int32 → Nat → Int32 → MS → Option (Unit × MS)) (K26 : Int32 → Int32 → Int32 → Int32 → Nat → Int32 → Int32 → MS → Option (Unit × MS)) (hK14 : ∀ (a1 : Int32) (a2 : Int32) (a3 : Int32) (a4 : Int32) (a5 : Nat) (a6 : Int32) (h : sm_H) (S : MS), Mo h m S → z2 m (J14 m a1 a2 a3 a4 (mR m a5) a6 h) (K14 a1 a2 a3 a4 a5 a6 S) h) (hK26 : ∀ (a1 : Int32) (a2 : Int32) (a3 : Int32) (a4 : Int32) (a5 : Nat) (a6 : Int32) (a7 : Int32) (h : sm_H) (S : MS), Mo h m S → z2 m (J26 m a1 a2 a3 a4 (mR m a5) a6 a7 h) (K26 a1 a2 a3 a4 a5 a6 a7 S) h) (a1 : Int32) (a2 : Int32) (a3 : Int32) (a4 : Int32) (a5 : Nat) (a6 : Int32) (a7 : Int32) (s0 : Int32) (hh : sm_H) (S : MS) (HH : Mo hh m S) : z2 m (fX12_next_99 J14 J26 m a1 a2 a3 a4 (mR m a5) a6 a7 s0 hh) (gM_next_99 K14 K26 a1 a2 a3 a4 a5 a6 a7 s0 S) hh := by
  unfold fX12_next_99 gM_next_99
  refine z2_ite ?_ ?_
  · refine z2_let (fun x1 => ?_)
    exact hK26 a1 a2 a3 a4 a5 a6 x1 hh S HH
  refine z2_ite ?_ ?_
  · exact tM_next_132 m J14 J26 K14 K26 hK14 hK26 a1 a2 a3 a4 a5 a6 a7 hh S HH
  refine z2_gR HH (by decide) (by decide) ?_
  refine z2_gI HH (by decide) rfl (fun x2 => ?_)
  refine z2_gI HH (by decide) rfl (fun x3 => ?_)
  refine z2_cS (tM_order_0 m 59 (0 : Int32) x2 a5 (0 : Int32) x3 hh S HH) (fun x4 S5 hh HH => ?_)
  refine z2_ite ?_ ?_
  · refine z2_let (fun x6 => ?_)
    exact hK26 a1 a2 a3 a4 a5 a6 x6 hh S5 HH
  exact tM_next_132 m J14 J26 K14 K26 hK14 hK26 a1 a2 a3 a4 a5 a6 a7 hh S5 HH
noncomputable def gM_next_26 (K14 : Int32 → Int32 → Int32 → Int32 → Nat → Int32 → MS → Option (Unit × MS)) : Nat → Int32 → Int32 → Int32 → Int32 → Nat → Int32 → Int32 → MS → Option (Unit × MS)
  | 0 => fun _ _ _ _ _ _ _ _ => none
  | n + 1 => fun a1 a2 a3 a4 a5 a6 a7 S =>
    if (16 : Int32) ≤ a7 then (
      sm_let (a6 + (1 : Int32)) fun x1 =>
      K14 a1 a2 a3 a4 a5 x1 S
    ) else
    (mRI S 12 0 a6).bind fun x2 =>
    if x2 ≤ 0 then (
      sm_let (a6 + (1 : Int32)) fun x3 =>
      K14 a1 a2 a3 a4 a5 x3 S
    ) else
    mc (gM_isThere a6 a7 S) fun x4 S5 =>
    if x4 = 0 then (
      sm_let (a7 + (1 : Int32)) fun x12 =>
      (gM_next_26 K14 n) a1 a2 a3 a4 a5 a6 x12 S5
    ) else
    mc (gM_nameOf a6 a7 S5) fun _ S7 =>
    sm_let (S7.1 60) fun x8 =>
    (mRI S7 37 0 a1).bind fun x9 =>
    mc (gM_order 59 (0 : Int32) x8 36 ((16 : Int32) * a1) x9 S7) fun x10 S11 =>
    if x10 ≤ 0 then (
      gM_next_99 K14 (gM_next_26 K14 n) a1 a2 a3 a4 a5 a6 a7 (0 : Int32) S11
    ) else
    gM_next_99 K14 (gM_next_26 K14 n) a1 a2 a3 a4 a5 a6 a7 (1 : Int32) S11
set_option maxRecDepth 100000 in
set_option maxHeartbeats 4000000 in
theorem tM_next_26 (m : Nat) (J14 : Nat → Int32 → Int32 → Int32 → Int32 → Option Nat → Int32 → sm_H → Option (Unit × sm_H)) (K14 : Int32 → Int32 → Int32 → Int32 → Nat → Int32 → MS → Option (Unit × MS)) (hK14 : ∀ (a1 : Int32) (a2 : Int32) (a3 : Int32) (a4 : Int32) (a5 : Nat) (a6 : Int32) (h : sm_H) (S : MS), Mo h m S → z2 m (J14 m a1 a2 a3 a4 (mR m a5) a6 h) (K14 a1 a2 a3 a4 a5 a6 S) h) (n : Nat) : ∀ (a1 : Int32) (a2 : Int32) (a3 : Int32) (a4 : Int32) (a5 : Nat) (a6 : Int32) (a7 : Int32) (hh : sm_H) (S : MS), Mo hh m S → z2 m (fX12_next_26 J14 n m a1 a2 a3 a4 (mR m a5) a6 a7 hh) (gM_next_26 K14 n a1 a2 a3 a4 a5 a6 a7 S) hh := by
  induction n with
  | zero => intro a1 a2 a3 a4 a5 a6 a7 hh S HH; exact z2_none
  | succ n ih =>
    intro a1 a2 a3 a4 a5 a6 a7 hh S HH
    unfold fX12_next_26 gM_next_26
    refine z2_ite ?_ ?_
    · refine z2_let (fun x1 => ?_)
      exact hK14 a1 a2 a3 a4 a5 x1 hh S HH
    refine z2_gR HH (by decide) (by decide) ?_
    refine z2_aI HH (fun x2 => ?_)
    refine z2_ite ?_ ?_
    · refine z2_let (fun x3 => ?_)
      exact hK14 a1 a2 a3 a4 a5 x3 hh S HH
    refine z2_cV (F := fun b => fX12_isThere b a6 a7 hh) HH (tM_isThere_0 m a6 a7 hh S HH) (fun x4 S5 hh HH => ?_)
    refine z2_ite ?_ ?_
    · refine z2_let (fun x12 => ?_)
      exact ih a1 a2 a3 a4 a5 a6 x12 hh S5 HH
    refine z2_cV (F := fun b => fX12_nameOf b a6 a7 hh) HH (tM_nameOf_0 m a6 a7 hh S5 HH) (fun _ S7 hh HH => ?_)
    refine z2_gR HH (by decide) (by decide) ?_
    refine z2_gI HH (by decide) rfl (fun x8 => ?_)
    refine z2_gR HH (by decide) (by decide) ?_
    refine z2_gR HH (by decide) (by decide) ?_
    refine z2_aI HH (fun x9 => ?_)
    refine z2_cS (tM_order_0 m 59 (0 : Int32) x8 36 ((16 : Int32) * a1) x9 hh S7 HH) (fun x10 S11 hh HH => ?_)
    refine z2_ite ?_ ?_
    · exact tM_next_99 m J14 (fX12_next_26 J14 n) K14 (gM_next_26 K14 n) hK14 ih a1 a2 a3 a4 a5 a6 a7 (0 : Int32) hh S11 HH
    exact tM_next_99 m J14 (fX12_next_26 J14 n) K14 (gM_next_26 K14 n) hK14 ih a1 a2 a3 a4 a5 a6 a7 (1 : Int32) hh S11 HH
noncomputable def gM_next_14  : Nat → Int32 → Int32 → Int32 → Int32 → Nat → Int32 → MS → Option (Unit × MS)
  | 0 => fun _ _ _ _ _ _ _ => none
  | n + 1 => fun a1 a2 a3 a4 a5 a6 S =>
    sm_let (S.1 8) fun x1 =>
    if x1 ≤ a6 then (
      if 0 ≤ a3 then (
        gM_next_228 sm_fuel a2 a3 a4 a5 (0 : Int32) S
      ) else
      mc (gM_copyName a1 a2 S) fun _ S3 =>
      (mWI S3 38 0 a2 (130 : Int32)).bind fun S4 =>
      some ((), S4)
    ) else
    gM_next_26 (gM_next_14 n) sm_fuel a1 a2 a3 a4 a5 a6 (0 : Int32) S
set_option maxRecDepth 100000 in
set_option maxHeartbeats 4000000 in
theorem tM_next_14 (m : Nat)    (n : Nat) : ∀ (a1 : Int32) (a2 : Int32) (a3 : Int32) (a4 : Int32) (a5 : Nat) (a6 : Int32) (hh : sm_H) (S : MS), Mo hh m S → z2 m (fX12_next_14  n m a1 a2 a3 a4 (mR m a5) a6 hh) (gM_next_14  n a1 a2 a3 a4 a5 a6 S) hh := by
  induction n with
  | zero => intro a1 a2 a3 a4 a5 a6 hh S HH; exact z2_none
  | succ n ih =>
    intro a1 a2 a3 a4 a5 a6 hh S HH
    unfold fX12_next_14 gM_next_14
    refine z2_gI HH (by decide) rfl (fun x1 => ?_)
    refine z2_ite ?_ ?_
    · refine z2_ite ?_ ?_
      · exact tM_next_228 m sm_fuel a2 a3 a4 a5 (0 : Int32) hh S HH
      refine z2_cV (F := fun b => fX12_copyName b a1 a2 hh) HH (tM_copyName_0 m a1 a2 hh S HH) (fun _ S3 hh HH => ?_)
      refine z2_gR HH (by decide) (by decide) ?_
      refine z2_sI HH (fun S4 hh HH => ?_)
      exact z2_ret HH
    exact tM_next_26 m (fX12_next_14 n) (gM_next_14 n) ih sm_fuel a1 a2 a3 a4 a5 a6 (0 : Int32) hh S HH
noncomputable def gM_next  (a1 : Int32) (a2 : Int32) (S : MS) : Option (Unit × MS) :=
  gM_next_14 sm_fuel a1 a2 (-1 : Int32) (0 : Int32) 61 (0 : Int32) S
set_option maxRecDepth 100000 in
set_option maxHeartbeats 4000000 in
theorem tM_next_0 (m : Nat)    (a1 : Int32) (a2 : Int32) (hh : sm_H) (S : MS) (HH : Mo hh m S) : z2 m (fX12_next  m a1 a2 hh) (gM_next  a1 a2 S) hh := by
  unfold fX12_next gM_next
  refine z2_gR HH (by decide) (by decide) ?_
  exact tM_next_14 m sm_fuel a1 a2 (-1 : Int32) (0 : Int32) 61 (0 : Int32) hh S HH
-- M:TreeAgentModel.around(I)I
noncomputable def gM_around  (a0 : Int32) (S : MS) : Option (Int32 × MS) :=
  if (128 : Int32) ≤ a0 then (
    if (256 : Int32) ≤ a0 then (
      some (a0 + (4 : Int32), S)
    ) else
    some (a0 + (3 : Int32), S)
  ) else
  some (a0 + (2 : Int32), S)
set_option maxRecDepth 100000 in
set_option maxHeartbeats 4000000 in
theorem tM_around_0 (m : Nat)    (a0 : Int32) (hh : sm_H) (S : MS) (HH : Mo hh m S) : z2 m (fX12_around  a0 hh) (gM_around  a0 S) hh := by
  unfold fX12_around gM_around
  refine z2_ite ?_ ?_
  · refine z2_ite ?_ ?_
    · exact z2_ret HH
    exact z2_ret HH
  exact z2_ret HH
-- M:TreeAgentModel.numberSize(JZ)I
noncomputable def gM_numberSize_15  : Nat → Int64 → Int32 → MS → Option (Int32 × MS)
  | 0 => fun _ _ _ => none
  | n + 1 => fun a0 a3 S =>
    if (8 : Int32) ≤ a3 then (
      some (a3, S)
    ) else
    if (lg_cmp (a0 >>> ((((8 : Int32) * a3) - (1 : Int32)).toInt64 &&& 63)) (0 : Int64)) = 0 then (
      some (a3, S)
    ) else
    if (lg_cmp (a0 >>> ((((8 : Int32) * a3) - (1 : Int32)).toInt64 &&& 63)) (-1 : Int64)) = 0 then (
      some (a3, S)
    ) else
    sm_let (a3 + (1 : Int32)) fun x1 =>
    (gM_numberSize_15 n) a0 x1 S
set_option maxRecDepth 100000 in
set_option maxHeartbeats 4000000 in
theorem tM_numberSize_15 (m : Nat)    (n : Nat) : ∀ (a0 : Int64) (a3 : Int32) (hh : sm_H) (S : MS), Mo hh m S → z2 m (fX12_numberSize_15  n a0 a3 hh) (gM_numberSize_15  n a0 a3 S) hh := by
  induction n with
  | zero => intro a0 a3 hh S HH; exact z2_none
  | succ n ih =>
    intro a0 a3 hh S HH
    unfold fX12_numberSize_15 gM_numberSize_15
    refine z2_ite ?_ ?_
    · exact z2_ret HH
    refine z2_ite ?_ ?_
    · exact z2_ret HH
    refine z2_ite ?_ ?_
    · exact z2_ret HH
    refine z2_let (fun x1 => ?_)
    exact ih a0 x1 hh S HH
noncomputable def gM_numberSize  (a0 : Int64) (a2 : Int32) (S : MS) : Option (Int32 × MS) :=
  if a2 = 0 then (
    gM_numberSize_15 sm_fuel a0 (1 : Int32) S
  ) else
  if 0 ≤ (lg_cmp a0 (0 : Int64)) then (
    gM_numberSize_15 sm_fuel a0 (1 : Int32) S
  ) else
  some ((9 : Int32), S)
set_option maxRecDepth 100000 in
set_option maxHeartbeats 4000000 in
theorem tM_numberSize_0 (m : Nat)    (a0 : Int64) (a2 : Int32) (hh : sm_H) (S : MS) (HH : Mo hh m S) : z2 m (fX12_numberSize  a0 a2 hh) (gM_numberSize  a0 a2 S) hh := by
  unfold fX12_numberSize gM_numberSize
  refine z2_ite ?_ ?_
  · exact tM_numberSize_15 m sm_fuel a0 (1 : Int32) hh S HH
  refine z2_ite ?_ ?_
  · exact tM_numberSize_15 m sm_fuel a0 (1 : Int32) hh S HH
  exact z2_ret HH
-- M:TreeAgentModel.partSize(J)I
noncomputable def gM_partSize_2  : Nat → Int64 → Int32 → MS → Option (Int32 × MS)
  | 0 => fun _ _ _ => none
  | n + 1 => fun a0 a2 S =>
    if (lg_cmp (a0 >>> (((7 : Int32) * a2).toInt64 &&& 63)) (0 : Int64)) ≤ 0 then (
      some (a2, S)
    ) else
    sm_let (a2 + (1 : Int32)) fun x1 =>
    (gM_partSize_2 n) a0 x1 S
set_option maxRecDepth 100000 in
set_option maxHeartbeats 4000000 in
theorem tM_partSize_2 (m : Nat)    (n : Nat) : ∀ (a0 : Int64) (a2 : Int32) (hh : sm_H) (S : MS), Mo hh m S → z2 m (fX12_partSize_2  n a0 a2 hh) (gM_partSize_2  n a0 a2 S) hh := by
  induction n with
  | zero => intro a0 a2 hh S HH; exact z2_none
  | succ n ih =>
    intro a0 a2 hh S HH
    unfold fX12_partSize_2 gM_partSize_2
    refine z2_ite ?_ ?_
    · exact z2_ret HH
    refine z2_let (fun x1 => ?_)
    exact ih a0 x1 hh S HH
noncomputable def gM_partSize  (a0 : Int64) (S : MS) : Option (Int32 × MS) :=
  gM_partSize_2 sm_fuel a0 (1 : Int32) S
set_option maxRecDepth 100000 in
set_option maxHeartbeats 4000000 in
theorem tM_partSize_0 (m : Nat)    (a0 : Int64) (hh : sm_H) (S : MS) (HH : Mo hh m S) : z2 m (fX12_partSize  a0 hh) (gM_partSize  a0 S) hh := by
  unfold fX12_partSize gM_partSize
  exact tM_partSize_2 m sm_fuel a0 (1 : Int32) hh S HH
-- M:TreeAgentModel.nameOctets([JII)I
noncomputable def gM_nameOctets_5  : Nat → Nat → Int32 → Int32 → Int32 → Int32 → MS → Option (Int32 × MS)
  | 0 => fun _ _ _ _ _ _ => none
  | n + 1 => fun a0 a1 a2 a3 a4 S =>
    if a2 ≤ a4 then (
      some (a3, S)
    ) else
    (mRJ S a0 1 (a1 + a4)).bind fun x1 =>
    mc (gM_partSize x1 S) fun x2 S3 =>
    sm_let (a3 + x2) fun x4 =>
    sm_let (a4 + (1 : Int32)) fun x5 =>
    (gM_nameOctets_5 n) a0 a1 a2 x4 x5 S3
set_option maxRecDepth 100000 in
set_option maxHeartbeats 4000000 in
theorem tM_nameOctets_5 (m : Nat)    (n : Nat) : ∀ (a0 : Nat) (a1 : Int32) (a2 : Int32) (a3 : Int32) (a4 : Int32) (hh : sm_H) (S : MS), Mo hh m S → z2 m (fX12_nameOctets_5  n (mR m a0) a1 a2 a3 a4 hh) (gM_nameOctets_5  n a0 a1 a2 a3 a4 S) hh := by
  induction n with
  | zero => intro a0 a1 a2 a3 a4 hh S HH; exact z2_none
  | succ n ih =>
    intro a0 a1 a2 a3 a4 hh S HH
    unfold fX12_nameOctets_5 gM_nameOctets_5
    refine z2_ite ?_ ?_
    · exact z2_ret HH
    refine z2_aJ HH (fun x1 => ?_)
    refine z2_cS (tM_partSize_0 m x1 hh S HH) (fun x2 S3 hh HH => ?_)
    refine z2_let (fun x4 => ?_)
    refine z2_let (fun x5 => ?_)
    exact ih a0 a1 a2 x4 x5 hh S3 HH
noncomputable def gM_nameOctets  (a0 : Nat) (a1 : Int32) (a2 : Int32) (S : MS) : Option (Int32 × MS) :=
  gM_nameOctets_5 sm_fuel a0 a1 a2 (1 : Int32) (2 : Int32) S
set_option maxRecDepth 100000 in
set_option maxHeartbeats 4000000 in
theorem tM_nameOctets_0 (m : Nat)    (a0 : Nat) (a1 : Int32) (a2 : Int32) (hh : sm_H) (S : MS) (HH : Mo hh m S) : z2 m (fX12_nameOctets  (mR m a0) a1 a2 hh) (gM_nameOctets  a0 a1 a2 S) hh := by
  unfold fX12_nameOctets gM_nameOctets
  exact tM_nameOctets_5 m sm_fuel a0 a1 a2 (1 : Int32) (2 : Int32) hh S HH
-- M:TreeAgentModel.valueOctets(I)I
noncomputable def gM_valueOctets  (a1 : Int32) (S : MS) : Option (Int32 × MS) :=
  (mRI S 38 0 a1).bind fun x1 =>
  if x1 = (5 : Int32) then (
    some ((0 : Int32), S)
  ) else
  if x1 ≤ (127 : Int32) then (
    if x1 = (4 : Int32) then (
      (mRI S 41 0 a1).bind fun x10 =>
      some (x10, S)
    ) else
    if x1 = (6 : Int32) then (
      (mRI S 43 0 a1).bind fun x7 =>
      mc (gM_nameOctets 42 ((16 : Int32) * a1) x7 S) fun x8 S9 =>
      some (x8, S9)
    ) else
    if x1 = (64 : Int32) then (
      some ((4 : Int32), S)
    ) else
    (mRJ S 39 1 a1).bind fun x2 =>
    if x1 = (70 : Int32) then (
      mc (gM_numberSize x2 (1 : Int32) S) fun x5 S6 =>
      some (x5, S6)
    ) else
    mc (gM_numberSize x2 (0 : Int32) S) fun x3 S4 =>
    some (x3, S4)
  ) else
  some ((0 : Int32), S)
set_option maxRecDepth 100000 in
set_option maxHeartbeats 4000000 in
theorem tM_valueOctets_0 (m : Nat)    (a1 : Int32) (hh : sm_H) (S : MS) (HH : Mo hh m S) : z2 m (fX12_valueOctets  m a1 hh) (gM_valueOctets  a1 S) hh := by
  unfold fX12_valueOctets gM_valueOctets
  refine z2_gR HH (by decide) (by decide) ?_
  refine z2_aI HH (fun x1 => ?_)
  refine z2_ite ?_ ?_
  · exact z2_ret HH
  refine z2_ite ?_ ?_
  · refine z2_ite ?_ ?_
    · refine z2_gR HH (by decide) (by decide) ?_
      refine z2_aI HH (fun x10 => ?_)
      exact z2_ret HH
    refine z2_ite ?_ ?_
    · refine z2_gR HH (by decide) (by decide) ?_
      refine z2_gR HH (by decide) (by decide) ?_
      refine z2_aI HH (fun x7 => ?_)
      refine z2_cS (tM_nameOctets_0 m 42 ((16 : Int32) * a1) x7 hh S HH) (fun x8 S9 hh HH => ?_)
      exact z2_ret HH
    refine z2_ite ?_ ?_
    · exact z2_ret HH
    refine z2_gR HH (by decide) (by decide) ?_
    refine z2_aJ HH (fun x2 => ?_)
    refine z2_ite ?_ ?_
    · refine z2_cS (tM_numberSize_0 m x2 (1 : Int32) hh S HH) (fun x5 S6 hh HH => ?_)
      exact z2_ret HH
    refine z2_cS (tM_numberSize_0 m x2 (0 : Int32) hh S HH) (fun x3 S4 hh HH => ?_)
    exact z2_ret HH
  exact z2_ret HH
-- M:TreeAgentModel.rowOctets(I)I
noncomputable def gM_rowOctets  (a1 : Int32) (S : MS) : Option (Int32 × MS) :=
  (mRI S 37 0 a1).bind fun x1 =>
  mc (gM_nameOctets 36 ((16 : Int32) * a1) x1 S) fun x2 S3 =>
  mc (gM_around x2 S3) fun x4 S5 =>
  mc (gM_valueOctets a1 S5) fun x6 S7 =>
  mc (gM_around x6 S7) fun x8 S9 =>
  some (x4 + x8, S9)
set_option maxRecDepth 100000 in
set_option maxHeartbeats 4000000 in
theorem tM_rowOctets_0 (m : Nat)    (a1 : Int32) (hh : sm_H) (S : MS) (HH : Mo hh m S) : z2 m (fX12_rowOctets  m a1 hh) (gM_rowOctets  a1 S) hh := by
  unfold fX12_rowOctets gM_rowOctets
  refine z2_gR HH (by decide) (by decide) ?_
  refine z2_gR HH (by decide) (by decide) ?_
  refine z2_aI HH (fun x1 => ?_)
  refine z2_cS (tM_nameOctets_0 m 36 ((16 : Int32) * a1) x1 hh S HH) (fun x2 S3 hh HH => ?_)
  refine z2_cS (tM_around_0 m x2 hh S3 HH) (fun x4 S5 hh HH => ?_)
  refine z2_cV (F := fun b => fX12_valueOctets b a1 hh) HH (tM_valueOctets_0 m a1 hh S5 HH) (fun x6 S7 hh HH => ?_)
  refine z2_cS (tM_around_0 m x6 hh S7 HH) (fun x8 S9 hh HH => ?_)
  exact z2_ret HH
