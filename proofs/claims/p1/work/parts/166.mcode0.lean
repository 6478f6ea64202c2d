-- M:TreeAgentModel.in(JJJ)Z
noncomputable def gM_in  (a0 : Int64) (a2 : Int64) (a4 : Int64) (S : MS) : Option (Int32 × MS) :=
  if (lg_cmp a0 a2) < 0 then (
    some ((0 : Int32), S)
  ) else
  if 0 < (lg_cmp a0 a4) then (
    some ((0 : Int32), S)
  ) else
  some ((1 : Int32), S)
set_option maxRecDepth 100000 in
set_option maxHeartbeats 4000000 in
theorem tM_in_0 (m : Nat)    (a0 : Int64) (a2 : Int64) (a4 : Int64) (hh : sm_H) (S : MS) (HH : Mo hh m S) : z2 m (fX12_in  a0 a2 a4 hh) (gM_in  a0 a2 a4 S) hh := by
  unfold fX12_in gM_in
  refine z2_ite ?_ ?_
  · exact z2_ret HH
  refine z2_ite ?_ ?_
  · exact z2_ret HH
  exact z2_ret HH
-- M:TreeAgentModel.begins([JII[JII)Z
noncomputable def gM_begins_16  : Nat → Nat → Int32 → Nat → Int32 → Int32 → Int32 → Int32 → MS → Option (Int32 × MS)
  | 0 => fun _ _ _ _ _ _ _ _ => none
  | n + 1 => fun a0 a1 a3 a4 a5 a6 a7 S =>
    if a5 ≤ a7 then (
      if a6 = 0 ∨ a6 = 1 then some (a6, S) else none
    ) else
    if a6 = 0 then (
      if a6 = 0 ∨ a6 = 1 then some (a6, S) else none
    ) else
    (mRJ S a0 1 (a1 + a7)).bind fun x1 =>
    (mRJ S a3 1 (a4 + a7)).bind fun x2 =>
    if (lg_cmp x1 x2) = 0 then (
      sm_let (a7 + (1 : Int32)) fun x4 =>
      (gM_begins_16 n) a0 a1 a3 a4 a5 (1 : Int32) x4 S
    ) else
    sm_let (a7 + (1 : Int32)) fun x3 =>
    (gM_begins_16 n) a0 a1 a3 a4 a5 (0 : Int32) x3 S
set_option maxRecDepth 100000 in
set_option maxHeartbeats 4000000 in
theorem tM_begins_16 (m : Nat)    (n : Nat) : ∀ (a0 : Nat) (a1 : Int32) (a3 : Nat) (a4 : Int32) (a5 : Int32) (a6 : Int32) (a7 : Int32) (hh : sm_H) (S : MS), Mo hh m S → z2 m (fX12_begins_16  n (mR m a0) a1 (mR m a3) a4 a5 a6 a7 hh) (gM_begins_16  n a0 a1 a3 a4 a5 a6 a7 S) hh := by
  induction n with
  | zero => intro a0 a1 a3 a4 a5 a6 a7 hh S HH; exact z2_none
  | succ n ih =>
    intro a0 a1 a3 a4 a5 a6 a7 hh S HH
    unfold fX12_begins_16 gM_begins_16
    refine z2_ite ?_ ?_
    · exact z2_ite (z2_ret HH) z2_none
    refine z2_ite ?_ ?_
    · exact z2_ite (z2_ret HH) z2_none
    refine z2_aJ HH (fun x1 => ?_)
    refine z2_aJ HH (fun x2 => ?_)
    refine z2_ite ?_ ?_
    · refine z2_let (fun x4 => ?_)
      exact ih a0 a1 a3 a4 a5 (1 : Int32) x4 hh S HH
    refine z2_let (fun x3 => ?_)
    exact ih a0 a1 a3 a4 a5 (0 : Int32) x3 hh S HH
noncomputable def gM_begins  (a0 : Nat) (a1 : Int32) (a2 : Int32) (a3 : Nat) (a4 : Int32) (a5 : Int32) (S : MS) : Option (Int32 × MS) :=
  if a2 < a5 then (
    gM_begins_16 sm_fuel a0 a1 a3 a4 a5 (0 : Int32) (0 : Int32) S
  ) else
  gM_begins_16 sm_fuel a0 a1 a3 a4 a5 (1 : Int32) (0 : Int32) S
set_option maxRecDepth 100000 in
set_option maxHeartbeats 4000000 in
theorem tM_begins_0 (m : Nat)    (a0 : Nat) (a1 : Int32) (a2 : Int32) (a3 : Nat) (a4 : Int32) (a5 : Int32) (hh : sm_H) (S : MS) (HH : Mo hh m S) : z2 m (fX12_begins  (mR m a0) a1 a2 (mR m a3) a4 a5 hh) (gM_begins  a0 a1 a2 a3 a4 a5 S) hh := by
  unfold fX12_begins gM_begins
  refine z2_ite ?_ ?_
  · exact tM_begins_16 m sm_fuel a0 a1 a3 a4 a5 (0 : Int32) (0 : Int32) hh S HH
  exact tM_begins_16 m sm_fuel a0 a1 a3 a4 a5 (1 : Int32) (0 : Int32) hh S HH
-- M:TreeAgentModel.order([JII[JII)I
noncomputable def gM_order_62  (a2 : Int32) (a5 : Int32) (S : MS) : Option (Int32 × MS) :=
  if a5 ≤ a2 then (
    if a2 ≤ a5 then (
      some ((0 : Int32), S)
    ) else
    some ((1 : Int32), S)
  ) else
  some ((-1 : Int32), S)
set_option maxRecDepth 100000 in
set_option maxHeartbeats 4000000 in
theorem tM_order_62 (m : Nat)    (a2 : Int32) (a5 : Int32) (hh : sm_H) (S : MS) (HH : Mo hh m S) : z2 m (fX12_order_62  a2 a5 hh) (gM_order_62  a2 a5 S) hh := by
  unfold fX12_order_62 gM_order_62
  refine z2_ite ?_ ?_
  · refine z2_ite ?_ ?_
    · exact z2_ret HH
    exact z2_ret HH
  exact z2_ret HH
noncomputable def gM_order_3  : Nat → Nat → Int32 → Int32 → Nat → Int32 → Int32 → Int32 → MS → Option (Int32 × MS)
  | 0 => fun _ _ _ _ _ _ _ _ => none
  | n + 1 => fun a0 a1 a2 a3 a4 a5 a6 S =>
    if a2 ≤ a6 then (
      gM_order_62 a2 a5 S
    ) else
    if a5 ≤ a6 then (
      gM_order_62 a2 a5 S
    ) else
    (mRJ S a0 1 (a1 + a6)).bind fun x1 =>
    (mRJ S a3 1 (a4 + a6)).bind fun x2 =>
    if (lg_cmp x1 x2) = 0 then (
      sm_let (a6 + (1 : Int32)) fun x3 =>
      (gM_order_3 n) a0 a1 a2 a3 a4 a5 x3 S
    ) else
    (mRJ S a0 1 (a1 + a6)).bind fun x4 =>
    (mRJ S a3 1 (a4 + a6)).bind fun x5 =>
    if 0 ≤ (lg_cmp x4 x5) then (
      some ((1 : Int32), S)
    ) else
    some ((-1 : Int32), S)
set_option maxRecDepth 100000 in
set_option maxHeartbeats 4000000 in
theorem tM_order_3 (m : Nat)    (n : Nat) : ∀ (a0 : Nat) (a1 : Int32) (a2 : Int32) (a3 : Nat) (a4 : Int32) (a5 : Int32) (a6 : Int32) (hh : sm_H) (S : MS), Mo hh m S → z2 m (fX12_order_3  n (mR m a0) a1 a2 (mR m a3) a4 a5 a6 hh) (gM_order_3  n a0 a1 a2 a3 a4 a5 a6 S) hh := by
  induction n with
  | zero => intro a0 a1 a2 a3 a4 a5 a6 hh S HH; exact z2_none
  | succ n ih =>
    intro a0 a1 a2 a3 a4 a5 a6 hh S HH
    unfold fX12_order_3 gM_order_3
    refine z2_ite ?_ ?_
    · exact tM_order_62 m  a2 a5 hh S HH
    refine z2_ite ?_ ?_
    · exact tM_order_62 m  a2 a5 hh S HH
    refine z2_aJ HH (fun x1 => ?_)
    refine z2_aJ HH (fun x2 => ?_)
    refine z2_ite ?_ ?_
    · refine z2_let (fun x3 => ?_)
      exact ih a0 a1 a2 a3 a4 a5 x3 hh S HH
    refine z2_aJ HH (fun x4 => ?_)
    refine z2_aJ HH (fun x5 => ?_)
    refine z2_ite ?_ ?_
    · exact z2_ret HH
    exact z2_ret HH
noncomputable def gM_order  (a0 : Nat) (a1 : Int32) (a2 : Int32) (a3 : Nat) (a4 : Int32) (a5 : Int32) (S : MS) : Option (Int32 × MS) :=
  gM_order_3 sm_fuel a0 a1 a2 a3 a4 a5 (0 : Int32) S
set_option maxRecDepth 100000 in
set_option maxHeartbeats 4000000 in
theorem tM_order_0 (m : Nat)    (a0 : Nat) (a1 : Int32) (a2 : Int32) (a3 : Nat) (a4 : Int32) (a5 : Int32) (hh : sm_H) (S : MS) (HH : Mo hh m S) : z2 m (fX12_order  (mR m a0) a1 a2 (mR m a3) a4 a5 hh) (gM_order  a0 a1 a2 a3 a4 a5 S) hh := by
  unfold fX12_order gM_order
  exact tM_order_3 m sm_fuel a0 a1 a2 a3 a4 a5 (0 : Int32) hh S HH
-- M:TreeAgentModel.feed(JI)I
noncomputable def gM_feed_51  : Nat → Int64 → Int32 → MS → Option (Int32 × MS)
  | 0 => fun _ _ _ => none
  | n + 1 => fun a1 a4 S =>
    if a4 < 0 then (
      sm_let (S.1 2) fun x1 =>
      some (x1, S)
    ) else
    sm_let (S.1 2) fun x2 =>
    (mWI S 1 3 x2 (vp_nar .byte (((a1 >>> (((8 : Int32) * a4).toInt64 &&& 63)).toInt32).toInt8.toInt32))).bind fun S3 =>
    sm_let (S3.1 2) fun x4 =>
    sm_let (sI S3 2 (x4 + (1 : Int32))) fun S5 =>
    sm_let (a4 + (-1 : Int32)) fun x6 =>
    (gM_feed_51 n) a1 x6 S5
set_option maxRecDepth 100000 in
set_option maxHeartbeats 4000000 in
theorem tM_feed_51 (m : Nat)    (n : Nat) : ∀ (a1 : Int64) (a4 : Int32) (hh : sm_H) (S : MS), Mo hh m S → z2 m (fX12_feed_51  n m a1 a4 hh) (gM_feed_51  n a1 a4 S) hh := by
  induction n with
  | zero => intro a1 a4 hh S HH; exact z2_none
  | succ n ih =>
    intro a1 a4 hh S HH
    unfold fX12_feed_51 gM_feed_51
    refine z2_ite ?_ ?_
    · refine z2_gI HH (by decide) rfl (fun x1 => ?_)
      exact z2_ret HH
    refine z2_gR HH (by decide) (by decide) ?_
    refine z2_gI HH (by decide) rfl (fun x2 => ?_)
    refine z2_sI HH (fun S3 hh HH => ?_)
    refine z2_gI HH (by decide) rfl (fun x4 => ?_)
    refine z2_pI HH (by decide) rfl (fun S5 hh HH => ?_)
    refine z2_let (fun x6 => ?_)
    exact ih a1 x6 hh S5 HH
noncomputable def gM_feed  (a1 : Int64) (a3 : Int32) (S : MS) : Option (Int32 × MS) :=
  sm_let (sI S 0 (0 : Int32)) fun S1 =>
  mc (gM_in (a3.toInt64) (0 : Int64) (8 : Int64) S1) fun x2 S3 =>
  if x2 = 0 then (
    some ((-2 : Int32), S3)
  ) else
  if a3 = 0 then (
    sm_let (sI S3 2 (0 : Int32)) fun S6 =>
    some ((0 : Int32), S6)
  ) else
  sm_let (S3.1 2) fun x4 =>
  if (x4 + a3) ≤ (1200 : Int32) then (
    sm_let (a3 - (1 : Int32)) fun x5 =>
    gM_feed_51 sm_fuel a1 x5 S3
  ) else
  some ((-4 : Int32), S3)
set_option maxRecDepth 100000 in
set_option maxHeartbeats 4000000 in
theorem tM_feed_0 (m : Nat)    (a1 : Int64) (a3 : Int32) (hh : sm_H) (S : MS) (HH : Mo hh m S) : z2 m (fX12_feed  m a1 a3 hh) (gM_feed  a1 a3 S) hh := by
  unfold fX12_feed gM_feed
  refine z2_pI HH (by decide) rfl (fun S1 hh HH => ?_)
  refine z2_cS (tM_in_0 m (a3.toInt64) (0 : Int64) (8 : Int64) hh S1 HH) (fun x2 S3 hh HH => ?_)
  refine z2_ite ?_ ?_
  · exact z2_ret HH
  refine z2_ite ?_ ?_
  · refine z2_pI HH (by decide) rfl (fun S6 hh HH => ?_)
    exact z2_ret HH
  refine z2_gI HH (by decide) rfl (fun x4 => ?_)
  refine z2_ite ?_ ?_
  · refine z2_let (fun x5 => ?_)
    exact tM_feed_51 m sm_fuel a1 x5 hh S3 HH
  exact z2_ret HH
-- M:TreeAgentModel.number(J)I
noncomputable def gM_number_50  (a1 : Int64) (s0 : Int64) (S : MS) : Option (Int32 × MS) :=
  mc (gM_in a1 (0 : Int64) s0 S) fun x1 S2 =>
  if x1 = 0 then (
    some ((-2 : Int32), S2)
  ) else
  sm_let (S2.1 4) fun x3 =>
  if x3 = (16 : Int32) then (
    some ((-4 : Int32), S2)
  ) else
  sm_let (S2.1 4) fun x4 =>
  (mWJ S2 3 1 x4 a1).bind fun S5 =>
  sm_let (S5.1 4) fun x6 =>
  sm_let (sI S5 4 (x6 + (1 : Int32))) fun S7 =>
  sm_let (S7.1 4) fun x8 =>
  some (x8, S7)
set_option maxRecDepth 100000 in
set_option maxHeartbeats 4000000 in
theorem tM_number_50 (m : Nat)    (a1 : Int64) (s0 : Int64) (hh : sm_H) (S : MS) (HH : Mo hh m S) : z2 m (fX12_number_50  m a1 s0 hh) (gM_number_50  a1 s0 S) hh := by
  unfold fX12_number_50 gM_number_50
  refine z2_cS (tM_in_0 m a1 (0 : Int64) s0 hh S HH) (fun x1 S2 hh HH => ?_)
  refine z2_ite ?_ ?_
  · exact z2_ret HH
  refine z2_gI HH (by decide) rfl (fun x3 => ?_)
  refine z2_ite ?_ ?_
  · exact z2_ret HH
  refine z2_gR HH (by decide) (by decide) ?_
  refine z2_gI HH (by decide) rfl (fun x4 => ?_)
  refine z2_sJ HH (fun S5 hh HH => ?_)
  refine z2_gI HH (by decide) rfl (fun x6 => ?_)
  refine z2_pI HH (by decide) rfl (fun S7 hh HH => ?_)
  refine z2_gI HH (by decide) rfl (fun x8 => ?_)
  exact z2_ret HH
noncomputable def gM_number  (a1 : Int64) (S : MS) : Option (Int32 × MS) :=
  sm_let (sI S 0 (0 : Int32)) fun S1 =>
  if (lg_cmp a1 (-1 : Int64)) = 0 then (
    sm_let (sI S1 4 (0 : Int32)) fun S4 =>
    some ((0 : Int32), S4)
  ) else
  sm_let (S1.1 4) fun x2 =>
  if x2 = 0 then (
    gM_number_50 a1 (2 : Int64) S1
  ) else
  sm_let (S1.1 4) fun x3 =>
  if x3 = (1 : Int32) then (
    gM_number_50 a1 (39 : Int64) S1
  ) else
  gM_number_50 a1 (4294967295 : Int64) S1
set_option maxRecDepth 100000 in
set_option maxHeartbeats 4000000 in
theorem tM_number_0 (m : Nat)    (a1 : Int64) (hh : sm_H) (S : MS) (HH : Mo hh m S) : z2 m (fX12_number  m a1 hh) (gM_number  a1 S) hh := by
  unfold fX12_number gM_number
  refine z2_pI HH (by decide) rfl (fun S1 hh HH => ?_)
  refine z2_ite ?_ ?_
  · refine z2_pI HH (by decide) rfl (fun S4 hh HH => ?_)
    exact z2_ret HH
  refine z2_gI HH (by decide) rfl (fun x2 => ?_)
  refine z2_ite ?_ ?_
  · exact tM_number_50 m  a1 (2 : Int64) hh S1 HH
  refine z2_gI HH (by decide) rfl (fun x3 => ?_)
  refine z2_ite ?_ ?_
  · exact tM_number_50 m  a1 (39 : Int64) hh S1 HH
  exact tM_number_50 m  a1 (4294967295 : Int64) hh S1 HH
-- M:TreeAgentModel.clashes(I)Z
noncomputable def gM_clashes_82  : Nat → Int32 → Int32 → Int32 → MS → Option (Int32 × MS)
  | 0 => fun _ _ _ _ => none
  | n + 1 => fun a1 a2 a3 S =>
    sm_let (S.1 22) fun x1 =>
    if x1 ≤ a3 then (
      if a2 = 0 ∨ a2 = 1 then some (a2, S) else none
    ) else
    if a2 = 0 then (
      (mRI S 24 0 a3).bind fun x3 =>
      mc (gM_begins 3 (0 : Int32) a1 23 ((16 : Int32) * a3) x3 S) fun x4 S5 =>
      if x4 = 0 then (
        (mRI S5 24 0 a3).bind fun x7 =>
        mc (gM_begins 23 ((16 : Int32) * a3) x7 3 (0 : Int32) a1 S5) fun x8 S9 =>
        if x8 = 0 then (
          sm_let (a3 + (1 : Int32)) fun x10 =>
          (gM_clashes_82 n) a1 (0 : Int32) x10 S9
        ) else
        sm_let (a3 + (1 : Int32)) fun x11 =>
        (gM_clashes_82 n) a1 (1 : Int32) x11 S9
      ) else
      sm_let (a3 + (1 : Int32)) fun x6 =>
      (gM_clashes_82 n) a1 (1 : Int32) x6 S5
    ) else
    sm_let (a3 + (1 : Int32)) fun x2 =>
    (gM_clashes_82 n) a1 (1 : Int32) x2 S
set_option maxRecDepth 100000 in
set_option maxHeartbeats 4000000 in
theorem tM_clashes_82 (m : Nat)    (n : Nat) : ∀ (a1 : Int32) (a2 : Int32) (a3 : Int32) (hh : sm_H) (S : MS), Mo hh m S → z2 m (fX12_clashes_82  n m a1 a2 a3 hh) (gM_clashes_82  n a1 a2 a3 S) hh := by
  induction n with
  | zero => intro a1 a2 a3 hh S HH; exact z2_none
  | succ n ih =>
    intro a1 a2 a3 hh S HH
    unfold fX12_clashes_82 gM_clashes_82
    refine z2_gI HH (by decide) rfl (fun x1 => ?_)
    refine z2_ite ?_ ?_
    · exact z2_ite (z2_ret HH) z2_none
    refine z2_ite ?_ ?_
    · refine z2_gR HH (by decide) (by decide) ?_
      refine z2_gR HH (by decide) (by decide) ?_
      refine z2_gR HH (by decide) (by decide) ?_
      refine z2_aI HH (fun x3 => ?_)
      refine z2_cS (tM_begins_0 m 3 (0 : Int32) a1 23 ((16 : Int32) * a3) x3 hh S HH) (fun x4 S5 hh HH => ?_)
      refine z2_ite ?_ ?_
      · refine z2_gR HH (by decide) (by decide) ?_
        refine z2_gR HH (by decide) (by decide) ?_
        refine z2_aI HH (fun x7 => ?_)
        refine z2_gR HH (by decide) (by decide) ?_
        refine z2_cS (tM_begins_0 m 23 ((16 : Int32) * a3) x7 3 (0 : Int32) a1 hh S5 HH) (fun x8 S9 hh HH => ?_)
        refine z2_ite ?_ ?_
        · refine z2_let (fun x10 => ?_)
          exact ih a1 (0 : Int32) x10 hh S9 HH
        refine z2_let (fun x11 => ?_)
        exact ih a1 (1 : Int32) x11 hh S9 HH
      refine z2_let (fun x6 => ?_)
      exact ih a1 (1 : Int32) x6 hh S5 HH
    refine z2_let (fun x2 => ?_)
    exact ih a1 (1 : Int32) x2 hh S HH
noncomputable def gM_clashes_4  : Nat → Int32 → Int32 → Int32 → MS → Option (Int32 × MS)
  | 0 => fun _ _ _ _ => none
  | n + 1 => fun a1 a2 a3 S =>
    sm_let (S.1 8) fun x1 =>
    if x1 ≤ a3 then (
      gM_clashes_82 sm_fuel a1 a2 (0 : Int32) S
    ) else
    if a2 = 0 then (
      (mRI S 10 0 a3).bind fun x3 =>
      mc (gM_begins 3 (0 : Int32) a1 9 ((16 : Int32) * a3) x3 S) fun x4 S5 =>
      if x4 = 0 then (
        (mRI S5 10 0 a3).bind fun x7 =>
        mc (gM_begins 9 ((16 : Int32) * a3) x7 3 (0 : Int32) a1 S5) fun x8 S9 =>
        if x8 = 0 then (
          sm_let (a3 + (1 : Int32)) fun x10 =>
          (gM_clashes_4 n) a1 (0 : Int32) x10 S9
        ) else
        sm_let (a3 + (1 : Int32)) fun x11 =>
        (gM_clashes_4 n) a1 (1 : Int32) x11 S9
      ) else
      sm_let (a3 + (1 : Int32)) fun x6 =>
      (gM_clashes_4 n) a1 (1 : Int32) x6 S5
    ) else
    sm_let (a3 + (1 : Int32)) fun x2 =>
    (gM_clashes_4 n) a1 (1 : Int32) x2 S
set_option maxRecDepth 100000 in
set_option maxHeartbeats 4000000 in
theorem tM_clashes_4 (m : Nat)    (n : Nat) : ∀ (a1 : Int32) (a2 : Int32) (a3 : Int32) (hh : sm_H) (S : MS), Mo hh m S → z2 m (fX12_clashes_4  n m a1 a2 a3 hh) (gM_clashes_4  n a1 a2 a3 S) hh := by
  induction n with
  | zero => intro a1 a2 a3 hh S HH; exact z2_none
  | succ n ih =>
    intro a1 a2 a3 hh S HH
    unfold fX12_clashes_4 gM_clashes_4
    refine z2_gI HH (by decide) rfl (fun x1 => ?_)
    refine z2_ite ?_ ?_
    · exact tM_clashes_82 m sm_fuel a1 a2 (0 : Int32) hh S HH
    refine z2_ite ?_ ?_
    · refine z2_gR HH (by decide) (by decide) ?_
      refine z2_gR HH (by decide) (by decide) ?_
      refine z2_gR HH (by decide) (by decide) ?_
      refine z2_aI HH (fun x3 => ?_)
      refine z2_cS (tM_begins_0 m 3 (0 : Int32) a1 9 ((16 : Int32) * a3) x3 hh S HH) (fun x4 S5 hh HH => ?_)
      refine z2_ite ?_ ?_
      · refine z2_gR HH (by decide) (by decide) ?_
        refine z2_gR HH (by decide) (by decide) ?_
        refine z2_aI HH (fun x7 => ?_)
        refine z2_gR HH (by decide) (by decide) ?_
        refine z2_cS (tM_begins_0 m 9 ((16 : Int32) * a3) x7 3 (0 : Int32) a1 hh S5 HH) (fun x8 S9 hh HH => ?_)
        refine z2_ite ?_ ?_
        · refine z2_let (fun x10 => ?_)
          exact ih a1 (0 : Int32) x10 hh S9 HH
        refine z2_let (fun x11 => ?_)
        exact ih a1 (1 : Int32) x11 hh S9 HH
      refine z2_let (fun x6 => ?_)
      exact ih a1 (1 : Int32) x6 hh S5 HH
    refine z2_let (fun x2 => ?_)
    exact ih a1 (1 : Int32) x2 hh S HH
noncomputable def gM_clashes  (a1 : Int32) (S : MS) : Option (Int32 × MS) :=
  gM_clashes_4 sm_fuel a1 (0 : Int32) (0 : Int32) S
set_option maxRecDepth 100000 in
set_option maxHeartbeats 4000000 in
theorem tM_clashes_0 (m : Nat)    (a1 : Int32) (hh : sm_H) (S : MS) (HH : Mo hh m S) : z2 m (fX12_clashes  m a1 hh) (gM_clashes  a1 S) hh := by
  unfold fX12_clashes gM_clashes
  exact tM_clashes_4 m sm_fuel a1 (0 : Int32) (0 : Int32) hh S HH
-- M:TreeAgentModel.isTag(I)Z
noncomputable def gM_isTag  (a0 : Int32) (S : MS) : Option (Int32 × MS) :=
  if a0 = (2 : Int32) then (
    some ((1 : Int32), S)
  ) else
  if a0 = (4 : Int32) then (
    some ((1 : Int32), S)
  ) else
  if a0 = (6 : Int32) then (
    some ((1 : Int32), S)
  ) else
  mc (gM_in (a0.toInt64) (64 : Int64) (67 : Int64) S) fun x1 S2 =>
  if x1 = 0 then (
    if a0 = (70 : Int32) then (
      some ((1 : Int32), S2)
    ) else
    some ((0 : Int32), S2)
  ) else
  some ((1 : Int32), S2)
set_option maxRecDepth 100000 in
set_option maxHeartbeats 4000000 in
theorem tM_isTag_0 (m : Nat)    (a0 : Int32) (hh : sm_H) (S : MS) (HH : Mo hh m S) : z2 m (fX12_isTag  a0 hh) (gM_isTag  a0 S) hh := by
  unfold fX12_isTag gM_isTag
  refine z2_ite ?_ ?_
  · exact z2_ret HH
  refine z2_ite ?_ ?_
  · exact z2_ret HH
  refine z2_ite ?_ ?_
  · exact z2_ret HH
  refine z2_cS (tM_in_0 m (a0.toInt64) (64 : Int64) (67 : Int64) hh S HH) (fun x1 S2 hh HH => ?_)
  refine z2_ite ?_ ?_
  · refine z2_ite ?_ ?_
    · exact z2_ret HH
    exact z2_ret HH
  exact z2_ret HH
-- M:TreeAgentModel.first(II)V
noncomputable def gM_first  (a1 : Int32) (a2 : Int32) (S : MS) : Option (Unit × MS) :=
  (mWJ S 17 1 (((16 : Int32) * a1) + a2) (0 : Int64)).bind fun S1 =>
  (mWI S1 19 0 (((16 : Int32) * a1) + a2) (0 : Int32)).bind fun S2 =>
  (mWI S2 21 0 (((16 : Int32) * a1) + a2) (2 : Int32)).bind fun S3 =>
  (mWJ S3 20 1 (((256 : Int32) * a1) + ((16 : Int32) * a2)) (0 : Int64)).bind fun S4 =>
  (mWJ S4 20 1 ((((256 : Int32) * a1) + ((16 : Int32) * a2)) + (1 : Int32)) (0 : Int64)).bind fun S5 =>
  some ((), S5)
set_option maxRecDepth 100000 in
set_option maxHeartbeats 4000000 in
theorem tM_first_0 (m : Nat)    (a1 : Int32) (a2 : Int32) (hh : sm_H) (S : MS) (HH : Mo hh m S) : z2 m (fX12_first  m a1 a2 hh) (gM_first  a1 a2 S) hh := by
  unfold fX12_first gM_first
  refine z2_gR HH (by decide) (by decide) ?_
  refine z2_sJ HH (fun S1 hh HH => ?_)
  refine z2_gR HH (by decide) (by decide) ?_
  refine z2_sI HH (fun S2 hh HH => ?_)
  refine z2_gR HH (by decide) (by decide) ?_
  refine z2_sI HH (fun S3 hh HH => ?_)
  refine z2_gR HH (by decide) (by decide) ?_
  refine z2_sJ HH (fun S4 hh HH => ?_)
  refine z2_gR HH (by decide) (by decide) ?_
  refine z2_sJ HH (fun S5 hh HH => ?_)
  exact z2_ret HH
-- M:TreeAgentModel.newObject(IIJJIZ)I
noncomputable def gM_newObject_60  : Nat → Int32 → Int32 → MS → Option (Int32 × MS)
  | 0 => fun _ _ _ => none
  | n + 1 => fun a9 a10 S =>
    if (16 : Int32) ≤ a10 then (
      sm_let (S.1 8) fun x1 =>
      sm_let (sI S 8 (x1 + (1 : Int32))) fun S2 =>
      some (a9, S2)
    ) else
    mc (gM_first a9 a10 S) fun _ S4 =>
    sm_let (a10 + (1 : Int32)) fun x5 =>
    (gM_newObject_60 n) a9 x5 S4
set_option maxRecDepth 100000 in
set_option maxHeartbeats 4000000 in
theorem tM_newObject_60 (m : Nat)    (n : Nat) : ∀ (a9 : Int32) (a10 : Int32) (hh : sm_H) (S : MS), Mo hh m S → z2 m (fX12_newObject_60  n m a9 a10 hh) (gM_newObject_60  n a9 a10 S) hh := by
  induction n with
  | zero => intro a9 a10 hh S HH; exact z2_none
  | succ n ih =>
    intro a9 a10 hh S HH
    unfold fX12_newObject_60 gM_newObject_60
    refine z2_ite ?_ ?_
    · refine z2_gI HH (by decide) rfl (fun x1 => ?_)
      refine z2_pI HH (by decide) rfl (fun S2 hh HH => ?_)
      exact z2_ret HH
    refine z2_cV (F := fun b => fX12_first b a9 a10 hh) HH (tM_first_0 m a9 a10 hh S HH) (fun _ S4 hh HH => ?_)
    refine z2_let (fun x5 => ?_)
    exact ih a9 x5 hh S4 HH
noncomputable def gM_newObject  (a1 : Int32) (a2 : Int32) (a3 : Int64) (a5 : Int64) (a7 : Int32) (a8 : Int32) (S : MS) : Option (Int32 × MS) :=
  sm_let (S.1 8) fun x1 =>
  (mWI S 11 0 x1 a1).bind fun S2 =>
  (mWI S2 12 0 x1 a2).bind fun S3 =>
  (mWJ S3 13 1 x1 a3).bind fun S4 =>
  (mWJ S4 14 1 x1 a5).bind fun S5 =>
  (mWI S5 15 0 x1 a7).bind fun S6 =>
  (mWI S6 16 2 x1 (vp_nar .boolean a8)).bind fun S7 =>
  gM_newObject_60 sm_fuel x1 (0 : Int32) S7
set_option maxRecDepth 100000 in
set_option maxHeartbeats 4000000 in
theorem tM_newObject_0 (m : Nat)    (a1 : Int32) (a2 : Int32) (a3 : Int64) (a5 : Int64) (a7 : Int32) (a8 : Int32) (hh : sm_H) (S : MS) (HH : Mo hh m S) : z2 m (fX12_newObject  m a1 a2 a3 a5 a7 a8 hh) (gM_newObject  a1 a2 a3 a5 a7 a8 S) hh := by
  unfold fX12_newObject gM_newObject
  refine z2_gI HH (by decide) rfl (fun x1 => ?_)
  refine z2_gR HH (by decide) (by decide) ?_
  refine z2_sI HH (fun S2 hh HH => ?_)
  refine z2_gR HH (by decide) (by decide) ?_
  refine z2_sI HH (fun S3 hh HH => ?_)
  refine z2_gR HH (by decide) (by decide) ?_
  refine z2_sJ HH (fun S4 hh HH => ?_)
  refine z2_gR HH (by decide) (by decide) ?_
  refine z2_sJ HH (fun S5 hh HH => ?_)
  refine z2_gR HH (by decide) (by decide) ?_
  refine z2_sI HH (fun S6 hh HH => ?_)
  refine z2_gR HH (by decide) (by decide) ?_
  refine z2_sI HH (fun S7 hh HH => ?_)
  exact tM_newObject_60 m sm_fuel x1 (0 : Int32) hh S7 HH
-- M:TreeAgentModel.scalar(IIJJ)I
noncomputable def gM_scalar_87  : Nat → Int32 → Int32 → Int64 → Int64 → Int32 → Int32 → MS → Option (Int32 × MS)
  | 0 => fun _ _ _ _ _ _ _ => none
  | n + 1 => fun a1 a2 a3 a5 a7 a8 S =>
    if a7 ≤ a8 then (
      sm_let (S.1 8) fun x1 =>
      (mWI S 10 0 x1 a7).bind fun S2 =>
      mc (gM_newObject a1 a2 a3 a5 (-1 : Int32) (0 : Int32) S2) fun x3 S4 =>
      some (x3, S4)
    ) else
    sm_let (S.1 8) fun x5 =>
    (mRJ S 3 1 a8).bind fun x6 =>
    (mWJ S 9 1 (((16 : Int32) * x5) + a8) x6).bind fun S7 =>
    sm_let (a8 + (1 : Int32)) fun x8 =>
    (gM_scalar_87 n) a1 a2 a3 a5 a7 x8 S7
set_option maxRecDepth 100000 in
set_option maxHeartbeats 4000000 in
theorem tM_scalar_87 (m : Nat)    (n : Nat) : ∀ (a1 : Int32) (a2 : Int32) (a3 : Int64) (a5 : Int64) (a7 : Int32) (a8 : Int32) (hh : sm_H) (S : MS), Mo hh m S → z2 m (fX12_scalar_87  n m a1 a2 a3 a5 a7 a8 hh) (gM_scalar_87  n a1 a2 a3 a5 a7 a8 S) hh := by
  induction n with
  | zero => intro a1 a2 a3 a5 a7 a8 hh S HH; exact z2_none
  | succ n ih =>
    intro a1 a2 a3 a5 a7 a8 hh S HH
    unfold fX12_scalar_87 gM_scalar_87
    refine z2_ite ?_ ?_
    · refine z2_gR HH (by decide) (by decide) ?_
      refine z2_gI HH (by decide) rfl (fun x1 => ?_)
      refine z2_sI HH (fun S2 hh HH => ?_)
      refine z2_cV (F := fun b => fX12_newObject b a1 a2 a3 a5 (-1 : Int32) (0 : Int32) hh) HH (tM_newObject_0 m a1 a2 a3 a5 (-1 : Int32) (0 : Int32) hh S2 HH) (fun x3 S4 hh HH => ?_)
      exact z2_ret HH
    refine z2_gR HH (by decide) (by decide) ?_
    refine z2_gI HH (by decide) rfl (fun x5 => ?_)
    refine z2_gR HH (by decide) (by decide) ?_
    refine z2_aJ HH (fun x6 => ?_)
    refine z2_sJ HH (fun S7 hh HH => ?_)
    refine z2_let (fun x8 => ?_)
    exact ih a1 a2 a3 a5 a7 x8 hh S7 HH
noncomputable def gM_scalar  (a1 : Int32) (a2 : Int32) (a3 : Int64) (a5 : Int64) (S : MS) : Option (Int32 × MS) :=
  sm_let (sI S 0 (0 : Int32)) fun S1 =>
  sm_let (S1.1 4) fun x2 =>
  sm_let (sI S1 4 (0 : Int32)) fun S3 =>
  mc (gM_isTag a1 S3) fun x4 S5 =>
  if x4 = 0 then (
    some ((-2 : Int32), S5)
  ) else
  mc (gM_in (a2.toInt64) (0 : Int64) (2 : Int64) S5) fun x6 S7 =>
  if x6 = 0 then (
    some ((-2 : Int32), S7)
  ) else
  if 0 < (lg_cmp a3 a5) then (
    some ((-2 : Int32), S7)
  ) else
  mc (gM_in (x2.toInt64) (2 : Int64) (15 : Int64) S7) fun x8 S9 =>
  if x8 = 0 then (
    some ((-2 : Int32), S9)
  ) else
  mc (gM_clashes x2 S9) fun x10 S11 =>
  if x10 = 0 then (
    sm_let (S11.1 8) fun x12 =>
    if x12 = (40 : Int32) then (
      some ((-4 : Int32), S11)
    ) else
    gM_scalar_87 sm_fuel a1 a2 a3 a5 x2 (0 : Int32) S11
  ) else
  some ((-3 : Int32), S11)
set_option maxRecDepth 100000 in
set_option maxHeartbeats 4000000 in
theorem tM_scalar_0 (m : Nat)    (a1 : Int32) (a2 : Int32) (a3 : Int64) (a5 : Int64) (hh : sm_H) (S : MS) (HH : Mo hh m S) : z2 m (fX12_scalar  m a1 a2 a3 a5 hh) (gM_scalar  a1 a2 a3 a5 S) hh := by
  unfold fX12_scalar gM_scalar
  refine z2_pI HH (by decide) rfl (fun S1 hh HH => ?_)
  refine z2_gI HH (by decide) rfl (fun x2 => ?_)
  refine z2_pI HH (by decide) rfl (fun S3 hh HH => ?_)
  refine z2_cS (tM_isTag_0 m a1 hh S3 HH) (fun x4 S5 hh HH => ?_)
  refine z2_ite ?_ ?_
  · exact z2_ret HH
  refine z2_cS (tM_in_0 m (a2.toInt64) (0 : Int64) (2 : Int64) hh S5 HH) (fun x6 S7 hh HH => ?_)
  refine z2_ite ?_ ?_
  · exact z2_ret HH
  refine z2_ite ?_ ?_
  · exact z2_ret HH
  refine z2_cS (tM_in_0 m (x2.toInt64) (2 : Int64) (15 : Int64) hh S7 HH) (fun x8 S9 hh HH => ?_)
  refine z2_ite ?_ ?_
  · exact z2_ret HH
  refine z2_cV (F := fun b => fX12_clashes b x2 hh) HH (tM_clashes_0 m x2 hh S9 HH) (fun x10 S11 hh HH => ?_)
  refine z2_ite ?_ ?_
  · refine z2_gI HH (by decide) rfl (fun x12 => ?_)
    refine z2_ite ?_ ?_
    · exact z2_ret HH
    exact tM_scalar_87 m sm_fuel a1 a2 a3 a5 x2 (0 : Int32) hh S11 HH
  exact z2_ret HH
-- M:TreeAgentModel.table()I
noncomputable def gM_table_56  : Nat → Int32 → Int32 → MS → Option (Int32 × MS)
  | 0 => fun _ _ _ => none
  | n + 1 => fun a1 a2 S =>
    if a1 ≤ a2 then (
      sm_let (S.1 22) fun x1 =>
      (mWI S 24 0 x1 a1).bind fun S2 =>
      sm_let (S2.1 22) fun x3 =>
      sm_let (sI S2 22 (x3 + (1 : Int32))) fun S4 =>
      sm_let (S4.1 22) fun x5 =>
      some (x5 - (1 : Int32), S4)
    ) else
    sm_let (S.1 22) fun x6 =>
    (mRJ S 3 1 a2).bind fun x7 =>
    (mWJ S 23 1 (((16 : Int32) * x6) + a2) x7).bind fun S8 =>
    sm_let (a2 + (1 : Int32)) fun x9 =>
    (gM_table_56 n) a1 x9 S8
set_option maxRecDepth 100000 in
set_option maxHeartbeats 4000000 in
theorem tM_table_56 (m : Nat)    (n : Nat) : ∀ (a1 : Int32) (a2 : Int32) (hh : sm_H) (S : MS), Mo hh m S → z2 m (fX12_table_56  n m a1 a2 hh) (gM_table_56  n a1 a2 S) hh := by
  induction n with
  | zero => intro a1 a2 hh S HH; exact z2_none
  | succ n ih =>
    intro a1 a2 hh S HH
    unfold fX12_table_56 gM_table_56
    refine z2_ite ?_ ?_
    · refine z2_gR HH (by decide) (by decide) ?_
      refine z2_gI HH (by decide) rfl (fun x1 => ?_)
      refine z2_sI HH (fun S2 hh HH => ?_)
      refine z2_gI HH (by decide) rfl (fun x3 => ?_)
      refine z2_pI HH (by decide) rfl (fun S4 hh HH => ?_)
      refine z2_gI HH (by decide) rfl (fun x5 => ?_)
      exact z2_ret HH
    refine z2_gR HH (by decide) (by decide) ?_
    refine z2_gI HH (by decide) rfl (fun x6 => ?_)
    refine z2_gR HH (by decide) (by decide) ?_
    refine z2_aJ HH (fun x7 => ?_)
    refine z2_sJ HH (fun S8 hh HH => ?_)
    refine z2_let (fun x9 => ?_)
    exact ih a1 x9 hh S8 HH
noncomputable def gM_table   (S : MS) : Option (Int32 × MS) :=
  sm_let (sI S 0 (0 : Int32)) fun S1 =>
  sm_let (S1.1 4) fun x2 =>
  sm_let (sI S1 4 (0 : Int32)) fun S3 =>
  mc (gM_in (x2.toInt64) (2 : Int64) (14 : Int64) S3) fun x4 S5 =>
  if x4 = 0 then (
    some ((-2 : Int32), S5)
  ) else
  mc (gM_clashes x2 S5) fun x6 S7 =>
  if x6 = 0 then (
    sm_let (S7.1 22) fun x8 =>
    if x8 = (4 : Int32) then (
      some ((-4 : Int32), S7)
    ) else
    gM_table_56 sm_fuel x2 (0 : Int32) S7
  ) else
  some ((-3 : Int32), S7)
set_option maxRecDepth 100000 in
set_option maxHeartbeats 4000000 in
theorem tM_table_0 (m : Nat)     (hh : sm_H) (S : MS) (HH : Mo hh m S) : z2 m (fX12_table  m hh) (gM_table  S) hh := by
  unfold fX12_table gM_table
  refine z2_pI HH (by decide) rfl (fun S1 hh HH => ?_)
  refine z2_gI HH (by decide) rfl (fun x2 => ?_)
  refine z2_pI HH (by decide) rfl (fun S3 hh HH => ?_)
  refine z2_cS (tM_in_0 m (x2.toInt64) (2 : Int64) (14 : Int64) hh S3 HH) (fun x4 S5 hh HH => ?_)
  refine z2_ite ?_ ?_
  · exact z2_ret HH
  refine z2_cV (F := fun b => fX12_clashes b x2 hh) HH (tM_clashes_0 m x2 hh S5 HH) (fun x6 S7 hh HH => ?_)
  refine z2_ite ?_ ?_
  · refine z2_gI HH (by decide) rfl (fun x8 => ?_)
    refine z2_ite ?_ ?_
    · exact z2_ret HH
    exact tM_table_56 m sm_fuel x2 (0 : Int32) hh S7 HH
  exact z2_ret HH
-- M:TreeAgentModel.columnOf(IIIIJJZ)I
noncomputable def gM_columnOf_192  : Nat → Int32 → Int32 → Int32 → Int32 → Int64 → Int64 → Int32 → Int32 → Int32 → MS → Option (Int32 × MS)
  | 0 => fun _ _ _ _ _ _ _ _ _ _ => none
  | n + 1 => fun a1 a2 a3 a4 a5 a7 a9 a11 a12 S =>
    if a11 ≤ a12 then (
      sm_let (S.1 8) fun x1 =>
      (mWJ S 9 1 (((16 : Int32) * x1) + a11) (a2.toInt64)).bind fun S2 =>
      sm_let (S2.1 8) fun x3 =>
      (mWI S2 10 0 x3 (a11 + (1 : Int32))).bind fun S4 =>
      (mRI S4 25 0 a1).bind fun x5 =>
      (mWI S4 25 0 a1 (x5 + (1 : Int32))).bind fun S6 =>
      mc (gM_newObject a3 a4 a5 a7 a1 a9 S6) fun x7 S8 =>
      some (x7, S8)
    ) else
    sm_let (S.1 8) fun x9 =>
    (mRJ S 23 1 (((16 : Int32) * a1) + a12)).bind fun x10 =>
    (mWJ S 9 1 (((16 : Int32) * x9) + a12) x10).bind fun S11 =>
    sm_let (a12 + (1 : Int32)) fun x12 =>
    (gM_columnOf_192 n) a1 a2 a3 a4 a5 a7 a9 a11 x12 S11
set_option maxRecDepth 100000 in
set_option maxHeartbeats 4000000 in
theorem tM_columnOf_192 (m : Nat)    (n : Nat) : ∀ (a1 : Int32) (a2 : Int32) (a3 : Int32) (a4 : Int32) (a5 : Int64) (a7 : Int64) (a9 : Int32) (a11 : Int32) (a12 : Int32) (hh : sm_H) (S : MS), Mo hh m S → z2 m (fX12_columnOf_192  n m a1 a2 a3 a4 a5 a7 a9 a11 a12 hh) (gM_columnOf_192  n a1 a2 a3 a4 a5 a7 a9 a11 a12 S) hh := by
  induction n with
  | zero => intro a1 a2 a3 a4 a5 a7 a9 a11 a12 hh S HH; exact z2_none
  | succ n ih =>
    intro a1 a2 a3 a4 a5 a7 a9 a11 a12 hh S HH
    unfold fX12_columnOf_192 gM_columnOf_192
    refine z2_ite ?_ ?_
    · refine z2_gR HH (by decide) (by decide) ?_
      refine z2_gI HH (by decide) rfl (fun x1 => ?_)
      refine z2_sJ HH (fun S2 hh HH => ?_)
      refine z2_gR HH (by decide) (by decide) ?_
      refine z2_gI HH (by decide) rfl (fun x3 => ?_)
      refine z2_sI HH (fun S4 hh HH => ?_)
      refine z2_gR HH (by decide) (by decide) ?_
      refine z2_aI HH (fun x5 => ?_)
      refine z2_sI HH (fun S6 hh HH => ?_)
      refine z2_cV (F := fun b => fX12_newObject b a3 a4 a5 a7 a1 a9 hh) HH (tM_newObject_0 m a3 a4 a5 a7 a1 a9 hh S6 HH) (fun x7 S8 hh HH => ?_)
      exact z2_ret HH
    refine z2_gR HH (by decide) (by decide) ?_
    refine z2_gI HH (by decide) rfl (fun x9 => ?_)
    refine z2_gR HH (by decide) (by decide) ?_
    refine z2_aJ HH (fun x10 => ?_)
    refine z2_sJ HH (fun S11 hh HH => ?_)
    refine z2_let (fun x12 => ?_)
    exact ih a1 a2 a3 a4 a5 a7 a9 a11 x12 hh S11 HH
noncomputable def gM_columnOf_86  : Nat → Int32 → Int32 → Int32 → Int32 → Int64 → Int64 → Int32 → Int32 → Int32 → Int32 → MS → Option (Int32 × MS)
  | 0 => fun _ _ _ _ _ _ _ _ _ _ _ => none
  | n + 1 => fun a1 a2 a3 a4 a5 a7 a9 a10 a11 a12 S =>
    sm_let (S.1 8) fun x1 =>
    if x1 ≤ a12 then (
      if a10 = 0 then (
        (mRI S 25 0 a1).bind fun x2 =>
        if x2 = (6 : Int32) then (
          some ((-4 : Int32), S)
        ) else
        sm_let (S.1 8) fun x3 =>
        if x3 = (40 : Int32) then (
          some ((-4 : Int32), S)
        ) else
        gM_columnOf_192 sm_fuel a1 a2 a3 a4 a5 a7 a9 a11 (0 : Int32) S
      ) else
      some ((-3 : Int32), S)
    ) else
    if a10 = 0 then (
      (mRI S 15 0 a12).bind fun x5 =>
      if x5 = a1 then (
        (mRJ S 9 1 (((16 : Int32) * a12) + a11)).bind fun x7 =>
        if (lg_cmp x7 (a2.toInt64)) = 0 then (
          sm_let (a12 + (1 : Int32)) fun x8 =>
          (gM_columnOf_86 n) a1 a2 a3 a4 a5 a7 a9 (1 : Int32) a11 x8 S
        ) else
        if a9 = 0 then (
          sm_let (a12 + (1 : Int32)) fun x9 =>
          (gM_columnOf_86 n) a1 a2 a3 a4 a5 a7 a9 (0 : Int32) a11 x9 S
        ) else
        (mRI S 16 2 a12).bind fun x10 =>
        if x10 = 0 then (
          sm_let (a12 + (1 : Int32)) fun x11 =>
          (gM_columnOf_86 n) a1 a2 a3 a4 a5 a7 a9 (0 : Int32) a11 x11 S
        ) else
        sm_let (a12 + (1 : Int32)) fun x12 =>
        (gM_columnOf_86 n) a1 a2 a3 a4 a5 a7 a9 (1 : Int32) a11 x12 S
      ) else
      sm_let (a12 + (1 : Int32)) fun x6 =>
      (gM_columnOf_86 n) a1 a2 a3 a4 a5 a7 a9 (0 : Int32) a11 x6 S
    ) else
    sm_let (a12 + (1 : Int32)) fun x4 =>
    (gM_columnOf_86 n) a1 a2 a3 a4 a5 a7 a9 (1 : Int32) a11 x4 S
set_option maxRecDepth 100000 in
set_option maxHeartbeats 4000000 in
theorem tM_columnOf_86 (m : Nat)    (n : Nat) : ∀ (a1 : Int32) (a2 : Int32) (a3 : Int32) (a4 : Int32) (a5 : Int64) (a7 : Int64) (a9 : Int32) (a10 : Int32) (a11 : Int32) (a12 : Int32) (hh : sm_H) (S : MS), Mo hh m S → z2 m (fX12_columnOf_86  n m a1 a2 a3 a4 a5 a7 a9 a10 a11 a12 hh) (gM_columnOf_86  n a1 a2 a3 a4 a5 a7 a9 a10 a11 a12 S) hh := by
  induction n with
  | zero => intro a1 a2 a3 a4 a5 a7 a9 a10 a11 a12 hh S HH; exact z2_none
  | succ n ih =>
    intro a1 a2 a3 a4 a5 a7 a9 a10 a11 a12 hh S HH
    unfold fX12_columnOf_86 gM_columnOf_86
    refine z2_gI HH (by decide) rfl (fun x1 => ?_)
    refine z2_ite ?_ ?_
    · refine z2_ite ?_ ?_
      · refine z2_gR HH (by decide) (by decide) ?_
        refine z2_aI HH (fun x2 => ?_)
        refine z2_ite ?_ ?_
        · exact z2_ret HH
        refine z2_gI HH (by decide) rfl (fun x3 => ?_)
        refine z2_ite ?_ ?_
        · exact z2_ret HH
        exact tM_columnOf_192 m sm_fuel a1 a2 a3 a4 a5 a7 a9 a11 (0 : Int32) hh S HH
      exact z2_ret HH
    refine z2_ite ?_ ?_
    · refine z2_gR HH (by decide) (by decide) ?_
      refine z2_aI HH (fun x5 => ?_)
      refine z2_ite ?_ ?_
      · refine z2_gR HH (by decide) (by decide) ?_
        refine z2_aJ HH (fun x7 => ?_)
        refine z2_ite ?_ ?_
        · refine z2_let (fun x8 => ?_)
          exact ih a1 a2 a3 a4 a5 a7 a9 (1 : Int32) a11 x8 hh S HH
        refine z2_ite ?_ ?_
        · refine z2_let (fun x9 => ?_)
          exact ih a1 a2 a3 a4 a5 a7 a9 (0 : Int32) a11 x9 hh S HH
        refine z2_gR HH (by decide) (by decide) ?_
        refine z2_aI HH (fun x10 => ?_)
        refine z2_ite ?_ ?_
        · refine z2_let (fun x11 => ?_)
          exact ih a1 a2 a3 a4 a5 a7 a9 (0 : Int32) a11 x11 hh S HH
        refine z2_let (fun x12 => ?_)
        exact ih a1 a2 a3 a4 a5 a7 a9 (1 : Int32) a11 x12 hh S HH
      refine z2_let (fun x6 => ?_)
      exact ih a1 a2 a3 a4 a5 a7 a9 (0 : Int32) a11 x6 hh S HH
    refine z2_let (fun x4 => ?_)
    exact ih a1 a2 a3 a4 a5 a7 a9 (1 : Int32) a11 x4 hh S HH
noncomputable def gM_columnOf_73  (a1 : Int32) (a2 : Int32) (a3 : Int32) (a4 : Int32) (a5 : Int64) (a7 : Int64) (a9 : Int32) (s0 : Int32) (S : MS) : Option (Int32 × MS) :=
  (mRI S 24 0 a1).bind fun x1 =>
  gM_columnOf_86 sm_fuel a1 a2 a3 a4 a5 a7 a9 s0 x1 (0 : Int32) S
set_option maxRecDepth 100000 in
set_option maxHeartbeats 4000000 in
theorem tM_columnOf_73 (m : Nat)    (a1 : Int32) (a2 : Int32) (a3 : Int32) (a4 : Int32) (a5 : Int64) (a7 : Int64) (a9 : Int32) (s0 : Int32) (hh : sm_H) (S : MS) (HH : Mo hh m S) : z2 m (fX12_columnOf_73  m a1 a2 a3 a4 a5 a7 a9 s0 hh) (gM_columnOf_73  a1 a2 a3 a4 a5 a7 a9 s0 S) hh := by
  unfold fX12_columnOf_73 gM_columnOf_73
  refine z2_gR HH (by decide) (by decide) ?_
  refine z2_aI HH (fun x1 => ?_)
  exact tM_columnOf_86 m sm_fuel a1 a2 a3 a4 a5 a7 a9 s0 x1 (0 : Int32) hh S HH
noncomputable def gM_columnOf  (a1 : Int32) (a2 : Int32) (a3 : Int32) (a4 : Int32) (a5 : Int64) (a7 : Int64) (a9 : Int32) (S : MS) : Option (Int32 × MS) :=
  sm_let (sI S 0 (0 : Int32)) fun S1 =>
  sm_let (S1.1 22) fun x2 =>
  mc (gM_in (a1.toInt64) (0 : Int64) ((x2 - (1 : Int32)).toInt64) S1) fun x3 S4 =>
  if x3 = 0 then (
    some ((-1 : Int32), S4)
  ) else
  if a2 < (1 : Int32) then (
    some ((-2 : Int32), S4)
  ) else
  mc (gM_isTag a3 S4) fun x5 S6 =>
  if x5 = 0 then (
    some ((-2 : Int32), S6)
  ) else
  mc (gM_in (a4.toInt64) (0 : Int64) (2 : Int64) S6) fun x7 S8 =>
  if x7 = 0 then (
    some ((-2 : Int32), S8)
  ) else
  if (lg_cmp a5 a7) ≤ 0 then (
    (mRI S8 26 0 a1).bind fun x9 =>
    if x9 ≤ 0 then (
      gM_columnOf_73 a1 a2 a3 a4 a5 a7 a9 (0 : Int32) S8
    ) else
    gM_columnOf_73 a1 a2 a3 a4 a5 a7 a9 (1 : Int32) S8
  ) else
  some ((-2 : Int32), S8)
set_option maxRecDepth 100000 in
set_option maxHeartbeats 4000000 in
theorem tM_columnOf_0 (m : Nat)    (a1 : Int32) (a2 : Int32) (a3 : Int32) (a4 : Int32) (a5 : Int64) (a7 : Int64) (a9 : Int32) (hh : sm_H) (S : MS) (HH : Mo hh m S) : z2 m (fX12_columnOf  m a1 a2 a3 a4 a5 a7 a9 hh) (gM_columnOf  a1 a2 a3 a4 a5 a7 a9 S) hh := by
  unfold fX12_columnOf gM_columnOf
  refine z2_pI HH (by decide) rfl (fun S1 hh HH => ?_)
  refine z2_gI HH (by decide) rfl (fun x2 => ?_)
  refine z2_cS (tM_in_0 m (a1.toInt64) (0 : Int64) ((x2 - (1 : Int32)).toInt64) hh S1 HH) (fun x3 S4 hh HH => ?_)
  refine z2_ite ?_ ?_
  · exact z2_ret HH
  refine z2_ite ?_ ?_
  · exact z2_ret HH
  refine z2_cS (tM_isTag_0 m a3 hh S4 HH) (fun x5 S6 hh HH => ?_)
  refine z2_ite ?_ ?_
  · exact z2_ret HH
  refine z2_cS (tM_in_0 m (a4.toInt64) (0 : Int64) (2 : Int64) hh S6 HH) (fun x7 S8 hh HH => ?_)
  refine z2_ite ?_ ?_
  · exact z2_ret HH
  refine z2_ite ?_ ?_
  · refine z2_gR HH (by decide) (by decide) ?_
    refine z2_aI HH (fun x9 => ?_)
    refine z2_ite ?_ ?_
    · exact tM_columnOf_73 m  a1 a2 a3 a4 a5 a7 a9 (0 : Int32) hh S8 HH
    exact tM_columnOf_73 m  a1 a2 a3 a4 a5 a7 a9 (1 : Int32) hh S8 HH
  exact z2_ret HH
-- M:TreeAgentModel.column(IIIIJJ)I
noncomputable def gM_column  (a1 : Int32) (a2 : Int32) (a3 : Int32) (a4 : Int32) (a5 : Int64) (a7 : Int64) (S : MS) : Option (Int32 × MS) :=
  mc (gM_columnOf a1 a2 a3 a4 a5 a7 (0 : Int32) S) fun x1 S2 =>
  some (x1, S2)
set_option maxRecDepth 100000 in
set_option maxHeartbeats 4000000 in
theorem tM_column_0 (m : Nat)    (a1 : Int32) (a2 : Int32) (a3 : Int32) (a4 : Int32) (a5 : Int64) (a7 : Int64) (hh : sm_H) (S : MS) (HH : Mo hh m S) : z2 m (fX12_column  m a1 a2 a3 a4 a5 a7 hh) (gM_column  a1 a2 a3 a4 a5 a7 S) hh := by
  unfold fX12_column gM_column
  refine z2_cV (F := fun b => fX12_columnOf b a1 a2 a3 a4 a5 a7 (0 : Int32) hh) HH (tM_columnOf_0 m a1 a2 a3 a4 a5 a7 (0 : Int32) hh S HH) (fun x1 S2 hh HH => ?_)
  exact z2_ret HH
-- M:TreeAgentModel.status(II)I
noncomputable def gM_status  (a1 : Int32) (a2 : Int32) (S : MS) : Option (Int32 × MS) :=
  mc (gM_columnOf a1 a2 (2 : Int32) (2 : Int32) (1 : Int64) (6 : Int64) (1 : Int32) S) fun x1 S2 =>
  some (x1, S2)
set_option maxRecDepth 100000 in
set_option maxHeartbeats 4000000 in
theorem tM_status_0 (m : Nat)    (a1 : Int32) (a2 : Int32) (hh : sm_H) (S : MS) (HH : Mo hh m S) : z2 m (fX12_status  m a1 a2 hh) (gM_status  a1 a2 S) hh := by
  unfold fX12_status gM_status
  refine z2_cV (F := fun b => fX12_columnOf b a1 a2 (2 : Int32) (2 : Int32) (1 : Int64) (6 : Int64) (1 : Int32) hh) HH (tM_columnOf_0 m a1 a2 (2 : Int32) (2 : Int32) (1 : Int64) (6 : Int64) (1 : Int32) hh S HH) (fun x1 S2 hh HH => ?_)
  exact z2_ret HH
-- M:TreeAgentModel.placeOf(IJ)I
noncomputable def gM_placeOf_3  : Nat → Int32 → Int64 → Int32 → MS → Option (Int32 × MS)
  | 0 => fun _ _ _ _ => none
  | n + 1 => fun a1 a2 a4 S =>
    if (16 : Int32) ≤ a4 then (
      some ((-1 : Int32), S)
    ) else
    (mRI S 27 0 (((16 : Int32) * a1) + a4)).bind fun x1 =>
    if (lg_cmp (x1.toInt64) a2) = 0 then (
      if (lg_cmp a2 (0 : Int64)) ≤ 0 then (
        sm_let (a4 + (1 : Int32)) fun x3 =>
        (gM_placeOf_3 n) a1 a2 x3 S
      ) else
      some (a4, S)
    ) else
    sm_let (a4 + (1 : Int32)) fun x2 =>
    (gM_placeOf_3 n) a1 a2 x2 S
set_option maxRecDepth 100000 in
set_option maxHeartbeats 4000000 in
theorem tM_placeOf_3 (m : Nat)    (n : Nat) : ∀ (a1 : Int32) (a2 : Int64) (a4 : Int32) (hh : sm_H) (S : MS), Mo hh m S → z2 m (fX12_placeOf_3  n m a1 a2 a4 hh) (gM_placeOf_3  n a1 a2 a4 S) hh := by
  induction n with
  | zero => intro a1 a2 a4 hh S HH; exact z2_none
  | succ n ih =>
    intro a1 a2 a4 hh S HH
    unfold fX12_placeOf_3 gM_placeOf_3
    refine z2_ite ?_ ?_
    · exact z2_ret HH
    refine z2_gR HH (by decide) (by decide) ?_
    refine z2_aI HH (fun x1 => ?_)
    refine z2_ite ?_ ?_
    · refine z2_ite ?_ ?_
      · refine z2_let (fun x3 => ?_)
        exact ih a1 a2 x3 hh S HH
      exact z2_ret HH
    refine z2_let (fun x2 => ?_)
    exact ih a1 a2 x2 hh S HH
noncomputable def gM_placeOf  (a1 : Int32) (a2 : Int64) (S : MS) : Option (Int32 × MS) :=
  gM_placeOf_3 sm_fuel a1 a2 (0 : Int32) S
set_option maxRecDepth 100000 in
set_option maxHeartbeats 4000000 in
theorem tM_placeOf_0 (m : Nat)    (a1 : Int32) (a2 : Int64) (hh : sm_H) (S : MS) (HH : Mo hh m S) : z2 m (fX12_placeOf  m a1 a2 hh) (gM_placeOf  a1 a2 S) hh := by
  unfold fX12_placeOf gM_placeOf
  exact tM_placeOf_3 m sm_fuel a1 a2 (0 : Int32) hh S HH
-- M:TreeAgentModel.makeRow(IIJ)V
noncomputable def gM_makeRow_50  : Nat → Int32 → Int64 → Int32 → Int32 → MS → Option (Unit × MS)
  | 0 => fun _ _ _ _ _ => none
  | n + 1 => fun a1 a3 a5 a6 S =>
    sm_let (S.1 8) fun x1 =>
    if x1 ≤ a6 then (
      some ((), S)
    ) else
    (mRI S 15 0 a6).bind fun x2 =>
    if x2 = a1 then (
      mc (gM_first a6 a5 S) fun _ S5 =>
      (mRI S5 16 2 a6).bind fun x6 =>
      if x6 = 0 then (
        (mWJ S5 17 1 (((16 : Int32) * a6) + a5) (0 : Int64)).bind fun S7 =>
        sm_let (a6 + (1 : Int32)) fun x8 =>
        (gM_makeRow_50 n) a1 a3 a5 x8 S7
      ) else
      (mWJ S5 17 1 (((16 : Int32) * a6) + a5) a3).bind fun S9 =>
      sm_let (a6 + (1 : Int32)) fun x10 =>
      (gM_makeRow_50 n) a1 a3 a5 x10 S9
    ) else
    sm_let (a6 + (1 : Int32)) fun x3 =>
    (gM_makeRow_50 n) a1 a3 a5 x3 S
set_option maxRecDepth 100000 in
set_option maxHeartbeats 4000000 in
theorem tM_makeRow_50 (m : Nat)    (n : Nat) : ∀ (a1 : Int32) (a3 : Int64) (a5 : Int32) (a6 : Int32) (hh : sm_H) (S : MS), Mo hh m S → z2 m (fX12_makeRow_50  n m a1 a3 a5 a6 hh) (gM_makeRow_50  n a1 a3 a5 a6 S) hh := by
  induction n with
  | zero => intro a1 a3 a5 a6 hh S HH; exact z2_none
  | succ n ih =>
    intro a1 a3 a5 a6 hh S HH
    unfold fX12_makeRow_50 gM_makeRow_50
    refine z2_gI HH (by decide) rfl (fun x1 => ?_)
    refine z2_ite ?_ ?_
    · exact z2_ret HH
    refine z2_gR HH (by decide) (by decide) ?_
    refine z2_aI HH (fun x2 => ?_)
    refine z2_ite ?_ ?_
    · refine z2_cV (F := fun b => fX12_first b a6 a5 hh) HH (tM_first_0 m a6 a5 hh S HH) (fun _ S5 hh HH => ?_)
      refine z2_gR HH (by decide) (by decide) ?_
      refine z2_gR HH (by decide) (by decide) ?_
      refine z2_aI HH (fun x6 => ?_)
      refine z2_ite ?_ ?_
      · refine z2_sJ HH (fun S7 hh HH => ?_)
        refine z2_let (fun x8 => ?_)
        exact ih a1 a3 a5 x8 hh S7 HH
      refine z2_sJ HH (fun S9 hh HH => ?_)
      refine z2_let (fun x10 => ?_)
      exact ih a1 a3 a5 x10 hh S9 HH
    refine z2_let (fun x3 => ?_)
    exact ih a1 a3 a5 x3 hh S HH
noncomputable def gM_makeRow_3  : Nat → Int32 → Int32 → Int64 → Int32 → MS → Option (Unit × MS)
  | 0 => fun _ _ _ _ _ => none
  | n + 1 => fun a1 a2 a3 a5 S =>
    (mRI S 27 0 (((16 : Int32) * a1) + a5)).bind fun x1 =>
    if x1 ≤ 0 then (
      (mWI S 27 0 (((16 : Int32) * a1) + a5) a2).bind fun S2 =>
      (mRI S2 26 0 a1).bind fun x3 =>
      (mWI S2 26 0 a1 (x3 + (1 : Int32))).bind fun S4 =>
      gM_makeRow_50 sm_fuel a1 a3 a5 (0 : Int32) S4
    ) else
    sm_let (a5 + (1 : Int32)) fun x5 =>
    (gM_makeRow_3 n) a1 a2 a3 x5 S
set_option maxRecDepth 100000 in
set_option maxHeartbeats 4000000 in
theorem tM_makeRow_3 (m : Nat)    (n : Nat) : ∀ (a1 : Int32) (a2 : Int32) (a3 : Int64) (a5 : Int32) (hh : sm_H) (S : MS), Mo hh m S → z2 m (fX12_makeRow_3  n m a1 a2 a3 a5 hh) (gM_makeRow_3  n a1 a2 a3 a5 S) hh := by
  induction n with
  | zero => intro a1 a2 a3 a5 hh S HH; exact z2_none
  | succ n ih =>
    intro a1 a2 a3 a5 hh S HH
    unfold fX12_makeRow_3 gM_makeRow_3
    refine z2_gR HH (by decide) (by decide) ?_
    refine z2_aI HH (fun x1 => ?_)
    refine z2_ite ?_ ?_
    · refine z2_gR HH (by decide) (by decide) ?_
      refine z2_sI HH (fun S2 hh HH => ?_)
      refine z2_gR HH (by decide) (by decide) ?_
      refine z2_aI HH (fun x3 => ?_)
      refine z2_sI HH (fun S4 hh HH => ?_)
      exact tM_makeRow_50 m sm_fuel a1 a3 a5 (0 : Int32) hh S4 HH
    refine z2_let (fun x5 => ?_)
    exact ih a1 a2 a3 x5 hh S HH
noncomputable def gM_makeRow  (a1 : Int32) (a2 : Int32) (a3 : Int64) (S : MS) : Option (Unit × MS) :=
  gM_makeRow_3 sm_fuel a1 a2 a3 (0 : Int32) S
set_option maxRecDepth 100000 in
set_option maxHeartbeats 4000000 in
theorem tM_makeRow_0 (m : Nat)    (a1 : Int32) (a2 : Int32) (a3 : Int64) (hh : sm_H) (S : MS) (HH : Mo hh m S) : z2 m (fX12_makeRow  m a1 a2 a3 hh) (gM_makeRow  a1 a2 a3 S) hh := by
  unfold fX12_makeRow gM_makeRow
  exact tM_makeRow_3 m sm_fuel a1 a2 a3 (0 : Int32) hh S HH
