-- M:TreeAgentModel.check(I)V
noncomputable def gM_check_195  (a1 : Int32) (a2 : Int32) (a4 : Int64) (S : MS) : Option (Unit × MS) :=
  (mRJ S 13 1 a2).bind fun x1 =>
  (mRJ S 14 1 a2).bind fun x2 =>
  mc (gM_in a4 x1 x2 S) fun x3 S4 =>
  if x3 = 0 then (
    mc (gM_fail (10 : Int32) a1 S4) fun _ S8 =>
    some ((), S8)
  ) else
  mc (gM_checkPlace a1 a2 S4) fun _ S6 =>
  some ((), S6)
set_option maxRecDepth 100000 in
set_option maxHeartbeats 4000000 in
theorem tM_check_195 (m : Nat)    (a1 : Int32) (a2 : Int32) (a4 : Int64) (hh : sm_H) (S : MS) (HH : Mo hh m S) : z2 m (fX12_check_195  m a1 a2 a4 hh) (gM_check_195  a1 a2 a4 S) hh := by
  unfold fX12_check_195 gM_check_195
  refine z2_gR HH (by decide) (by decide) ?_
  refine z2_aJ HH (fun x1 => ?_)
  refine z2_gR HH (by decide) (by decide) ?_
  refine z2_aJ HH (fun x2 => ?_)
  refine z2_cS (tM_in_0 m a4 x1 x2 hh S HH) (fun x3 S4 hh HH => ?_)
  refine z2_ite ?_ ?_
  · refine z2_cV (F := fun b => fX12_fail b (10 : Int32) a1 hh) HH (tM_fail_0 m (10 : Int32) a1 hh S4 HH) (fun _ S8 hh HH => ?_)
    exact z2_ret HH
  refine z2_cV (F := fun b => fX12_checkPlace b a1 a2 hh) HH (tM_checkPlace_0 m a1 a2 hh S4 HH) (fun _ S6 hh HH => ?_)
  exact z2_ret HH
noncomputable def gM_check_136  (a1 : Int32) (a2 : Int32) (a3 : Int32) (a4 : Int64) (S : MS) : Option (Unit × MS) :=
  (mRI S 16 2 a2).bind fun x1 =>
  if x1 = 0 then (
    if a3 = (2 : Int32) then (
      gM_check_195 a1 a2 a4 S
    ) else
    if a3 = (66 : Int32) then (
      gM_check_195 a1 a2 a4 S
    ) else
    if a3 = (67 : Int32) then (
      gM_check_195 a1 a2 a4 S
    ) else
    mc (gM_checkPlace a1 a2 S) fun _ S3 =>
    some ((), S3)
  ) else
  if (lg_cmp a4 (1 : Int64)) = 0 then (
    mc (gM_checkPlace a1 a2 S) fun _ S5 =>
    some ((), S5)
  ) else
  if (lg_cmp a4 (2 : Int64)) = 0 then (
    mc (gM_checkPlace a1 a2 S) fun _ S7 =>
    some ((), S7)
  ) else
  mc (gM_in a4 (4 : Int64) (6 : Int64) S) fun x8 S9 =>
  if x8 = 0 then (
    mc (gM_fail (10 : Int32) a1 S9) fun _ S13 =>
    some ((), S13)
  ) else
  mc (gM_checkPlace a1 a2 S9) fun _ S11 =>
  some ((), S11)
set_option maxRecDepth 100000 in
set_option maxHeartbeats 4000000 in
theorem tM_check_136 (m : Nat)    (a1 : Int32) (a2 : Int32) (a3 : Int32) (a4 : Int64) (hh : sm_H) (S : MS) (HH : Mo hh m S) : z2 m (fX12_check_136  m a1 a2 a3 a4 hh) (gM_check_136  a1 a2 a3 a4 S) hh := by
  unfold fX12_check_136 gM_check_136
  refine z2_gR HH (by decide) (by decide) ?_
  refine z2_aI HH (fun x1 => ?_)
  refine z2_ite ?_ ?_
  · refine z2_ite ?_ ?_
    · exact tM_check_195 m  a1 a2 a4 hh S HH
    refine z2_ite ?_ ?_
    · exact tM_check_195 m  a1 a2 a4 hh S HH
    refine z2_ite ?_ ?_
    · exact tM_check_195 m  a1 a2 a4 hh S HH
    refine z2_cV (F := fun b => fX12_checkPlace b a1 a2 hh) HH (tM_checkPlace_0 m a1 a2 hh S HH) (fun _ S3 hh HH => ?_)
    exact z2_ret HH
  refine z2_ite ?_ ?_
  · refine z2_cV (F := fun b => fX12_checkPlace b a1 a2 hh) HH (tM_checkPlace_0 m a1 a2 hh S HH) (fun _ S5 hh HH => ?_)
    exact z2_ret HH
  refine z2_ite ?_ ?_
  · refine z2_cV (F := fun b => fX12_checkPlace b a1 a2 hh) HH (tM_checkPlace_0 m a1 a2 hh S HH) (fun _ S7 hh HH => ?_)
    exact z2_ret HH
  refine z2_cS (tM_in_0 m a4 (4 : Int64) (6 : Int64) hh S HH) (fun x8 S9 hh HH => ?_)
  refine z2_ite ?_ ?_
  · refine z2_cV (F := fun b => fX12_fail b (10 : Int32) a1 hh) HH (tM_fail_0 m (10 : Int32) a1 hh S9 HH) (fun _ S13 hh HH => ?_)
    exact z2_ret HH
  refine z2_cV (F := fun b => fX12_checkPlace b a1 a2 hh) HH (tM_checkPlace_0 m a1 a2 hh S9 HH) (fun _ S11 hh HH => ?_)
  exact z2_ret HH
noncomputable def gM_check  (a1 : Int32) (S : MS) : Option (Unit × MS) :=
  (mRI S 37 0 a1).bind fun x1 =>
  mc (gM_objectOf 36 ((16 : Int32) * a1) x1 (2 : Int32) S) fun x2 S3 =>
  (mRI S3 37 0 a1).bind fun x4 =>
  mc (gM_inView 36 ((16 : Int32) * a1) x4 S3) fun x5 S6 =>
  if x5 = 0 then (
    mc (gM_fail (6 : Int32) a1 S6) fun _ S22 =>
    some ((), S22)
  ) else
  if 0 ≤ x2 then (
    (mRI S6 11 0 x2).bind fun x7 =>
    (mRJ S6 39 1 a1).bind fun x8 =>
    (mRI S6 38 0 a1).bind fun x9 =>
    if x9 = x7 then (
      if x7 = (4 : Int32) then (
        (mRI S6 41 0 a1).bind fun x10 =>
        (mRJ S6 13 1 x2).bind fun x11 =>
        (mRJ S6 14 1 x2).bind fun x12 =>
        mc (gM_in (x10.toInt64) x11 x12 S6) fun x13 S14 =>
        if x13 = 0 then (
          mc (gM_fail (8 : Int32) a1 S14) fun _ S16 =>
          some ((), S16)
        ) else
        gM_check_136 a1 x2 x7 x8 S14
      ) else
      gM_check_136 a1 x2 x7 x8 S6
    ) else
    mc (gM_fail (7 : Int32) a1 S6) fun _ S18 =>
    some ((), S18)
  ) else
  mc (gM_fail (17 : Int32) a1 S6) fun _ S20 =>
  some ((), S20)
set_option maxRecDepth 100000 in
set_option maxHeartbeats 4000000 in
theorem tM_check_0 (m : Nat)    (a1 : Int32) (hh : sm_H) (S : MS) (HH : Mo hh m S) : z2 m (fX12_check  m a1 hh) (gM_check  a1 S) hh := by
  unfold fX12_check gM_check
  refine z2_gR HH (by decide) (by decide) ?_
  refine z2_gR HH (by decide) (by decide) ?_
  refine z2_aI HH (fun x1 => ?_)
  refine z2_cV (F := fun b => fX12_objectOf b (mR m 36) ((16 : Int32) * a1) x1 (2 : Int32) hh) HH (tM_objectOf_0 m 36 ((16 : Int32) * a1) x1 (2 : Int32) hh S HH) (fun x2 S3 hh HH => ?_)
  refine z2_gR HH (by decide) (by decide) ?_
  refine z2_gR HH (by decide) (by decide) ?_
  refine z2_aI HH (fun x4 => ?_)
  refine z2_cV (F := fun b => fX12_inView b (mR m 36) ((16 : Int32) * a1) x4 hh) HH (tM_inView_0 m 36 ((16 : Int32) * a1) x4 hh S3 HH) (fun x5 S6 hh HH => ?_)
  refine z2_ite ?_ ?_
  · refine z2_cV (F := fun b => fX12_fail b (6 : Int32) a1 hh) HH (tM_fail_0 m (6 : Int32) a1 hh S6 HH) (fun _ S22 hh HH => ?_)
    exact z2_ret HH
  refine z2_ite ?_ ?_
  · refine z2_gR HH (by decide) (by decide) ?_
    refine z2_aI HH (fun x7 => ?_)
    refine z2_gR HH (by decide) (by decide) ?_
    refine z2_aJ HH (fun x8 => ?_)
    refine z2_gR HH (by decide) (by decide) ?_
    refine z2_aI HH (fun x9 => ?_)
    refine z2_ite ?_ ?_
    · refine z2_ite ?_ ?_
      · refine z2_gR HH (by decide) (by decide) ?_
        refine z2_aI HH (fun x10 => ?_)
        refine z2_gR HH (by decide) (by decide) ?_
        refine z2_aJ HH (fun x11 => ?_)
        refine z2_gR HH (by decide) (by decide) ?_
        refine z2_aJ HH (fun x12 => ?_)
        refine z2_cS (tM_in_0 m (x10.toInt64) x11 x12 hh S6 HH) (fun x13 S14 hh HH => ?_)
        refine z2_ite ?_ ?_
        · refine z2_cV (F := fun b => fX12_fail b (8 : Int32) a1 hh) HH (tM_fail_0 m (8 : Int32) a1 hh S14 HH) (fun _ S16 hh HH => ?_)
          exact z2_ret HH
        exact tM_check_136 m  a1 x2 x7 x8 hh S14 HH
      exact tM_check_136 m  a1 x2 x7 x8 hh S6 HH
    refine z2_cV (F := fun b => fX12_fail b (7 : Int32) a1 hh) HH (tM_fail_0 m (7 : Int32) a1 hh S6 HH) (fun _ S18 hh HH => ?_)
    exact z2_ret HH
  refine z2_cV (F := fun b => fX12_fail b (17 : Int32) a1 hh) HH (tM_fail_0 m (17 : Int32) a1 hh S6 HH) (fun _ S20 hh HH => ?_)
  exact z2_ret HH
-- M:TreeAgentModel.carryOut()V
noncomputable def gM_carryOut_388 (K102 : Int32 → MS → Option (Unit × MS)) : Nat → Int32 → Int32 → Int32 → MS → Option (Unit × MS)
  | 0 => fun _ _ _ _ => none
  | n + 1 => fun a1 a4 a5 S =>
    (mRI S 21 0 a4).bind fun x1 =>
    if x1 ≤ a5 then (
      sm_let (a1 + (1 : Int32)) fun x2 =>
      K102 x2 S
    ) else
    (mRJ S 42 1 (((16 : Int32) * a1) + a5)).bind fun x3 =>
    (mWJ S 20 1 (((16 : Int32) * a4) + a5) x3).bind fun S4 =>
    sm_let (a5 + (1 : Int32)) fun x5 =>
    (gM_carryOut_388 K102 n) a1 a4 x5 S4
set_option maxRecDepth 100000 in
set_option maxHeartbeats 4000000 in
theorem tM_carryOut_388 (m : Nat) (J102 : Nat → Int32 → sm_H → Option (Unit × sm_H)) (K102 : Int32 → MS → Option (Unit × MS)) (hK102 : ∀ (a1 : Int32) (h : sm_H) (S : MS), Mo h m S → z2 m (J102 m a1 h) (K102 a1 S) h) (n : Nat) : ∀ (a1 : Int32) (a4 : Int32) (a5 : Int32) (hh : sm_H) (S : MS), Mo hh m S → z2 m (fX12_carryOut_388 J102 n m a1 a4 a5 hh) (gM_carryOut_388 K102 n a1 a4 a5 S) hh := by
  induction n with
  | zero => intro a1 a4 a5 hh S HH; exact z2_none
  | succ n ih =>
    intro a1 a4 a5 hh S HH
    unfold fX12_carryOut_388 gM_carryOut_388
    refine z2_gR HH (by decide) (by decide) ?_
    refine z2_aI HH (fun x1 => ?_)
    refine z2_ite ?_ ?_
    · refine z2_let (fun x2 => ?_)
      exact hK102 x2 hh S HH
    refine z2_gR HH (by decide) (by decide) ?_
    refine z2_gR HH (by decide) (by decide) ?_
    refine z2_aJ HH (fun x3 => ?_)
    refine z2_sJ HH (fun S4 hh HH => ?_)
    refine z2_let (fun x5 => ?_)
    exact ih a1 a4 x5 hh S4 HH
noncomputable def gM_carryOut_318 (K102 : Int32 → MS → Option (Unit × MS)) : Nat → Int32 → Int32 → Int32 → Int32 → MS → Option (Unit × MS)
  | 0 => fun _ _ _ _ _ => none
  | n + 1 => fun a1 a2 a4 a5 S =>
    (mRI S 19 0 a4).bind fun x1 =>
    if x1 ≤ a5 then (
      (mRI S 11 0 a2).bind fun x2 =>
      if x2 = (6 : Int32) then (
        (mRI S 43 0 a1).bind fun x4 =>
        (mWI S 21 0 a4 x4).bind fun S5 =>
        gM_carryOut_388 K102 sm_fuel a1 a4 (0 : Int32) S5
      ) else
      sm_let (a1 + (1 : Int32)) fun x3 =>
      K102 x3 S
    ) else
    (mRI S 40 3 (((40 : Int32) * a1) + a5)).bind fun x6 =>
    (mWI S 18 3 (((40 : Int32) * a4) + a5) (vp_nar .byte x6)).bind fun S7 =>
    sm_let (a5 + (1 : Int32)) fun x8 =>
    (gM_carryOut_318 K102 n) a1 a2 a4 x8 S7
set_option maxRecDepth 100000 in
set_option maxHeartbeats 4000000 in
theorem tM_carryOut_318 (m : Nat) (J102 : Nat → Int32 → sm_H → Option (Unit × sm_H)) (K102 : Int32 → MS → Option (Unit × MS)) (hK102 : ∀ (a1 : Int32) (h : sm_H) (S : MS), Mo h m S → z2 m (J102 m a1 h) (K102 a1 S) h) (n : Nat) : ∀ (a1 : Int32) (a2 : Int32) (a4 : Int32) (a5 : Int32) (hh : sm_H) (S : MS), Mo hh m S → z2 m (fX12_carryOut_318 J102 n m a1 a2 a4 a5 hh) (gM_carryOut_318 K102 n a1 a2 a4 a5 S) hh := by
  induction n with
  | zero => intro a1 a2 a4 a5 hh S HH; exact z2_none
  | succ n ih =>
    intro a1 a2 a4 a5 hh S HH
    unfold fX12_carryOut_318 gM_carryOut_318
    refine z2_gR HH (by decide) (by decide) ?_
    refine z2_aI HH (fun x1 => ?_)
    refine z2_ite ?_ ?_
    · refine z2_gR HH (by decide) (by decide) ?_
      refine z2_aI HH (fun x2 => ?_)
      refine z2_ite ?_ ?_
      · refine z2_gR HH (by decide) (by decide) ?_
        refine z2_gR HH (by decide) (by decide) ?_
        refine z2_aI HH (fun x4 => ?_)
        refine z2_sI HH (fun S5 hh HH => ?_)
        exact tM_carryOut_388 m J102 K102 hK102 sm_fuel a1 a4 (0 : Int32) hh S5 HH
      refine z2_let (fun x3 => ?_)
      exact hK102 x3 hh S HH
    refine z2_gR HH (by decide) (by decide) ?_
    refine z2_gR HH (by decide) (by decide) ?_
    refine z2_aI HH (fun x6 => ?_)
    refine z2_sI HH (fun S7 hh HH => ?_)
    refine z2_let (fun x8 => ?_)
    exact ih a1 a2 a4 x8 hh S7 HH
noncomputable def gM_carryOut_287 (K102 : Int32 → MS → Option (Unit × MS)) (a1 : Int32) (a2 : Int32) (a4 : Int32) (s0 : Int64) (s1 : Int32) (s2 : Nat) (S : MS) : Option (Unit × MS) :=
  (mWJ S s2 1 s1 s0).bind fun S1 =>
  (mRI S1 11 0 a2).bind fun x2 =>
  if x2 = (4 : Int32) then (
    (mRI S1 41 0 a1).bind fun x4 =>
    (mWI S1 19 0 a4 x4).bind fun S5 =>
    gM_carryOut_318 K102 sm_fuel a1 a2 a4 (0 : Int32) S5
  ) else
  (mWI S1 19 0 a4 (0 : Int32)).bind fun S3 =>
  gM_carryOut_318 K102 sm_fuel a1 a2 a4 (0 : Int32) S3
set_option maxRecDepth 100000 in
set_option maxHeartbeats 4000000 in
theorem tM_carryOut_287 (m : Nat) (J102 : Nat → Int32 → sm_H → Option (Unit × sm_H)) (K102 : Int32 → MS → Option (Unit × MS)) (hK102 : ∀ (a1 : Int32) (h : sm_H) (S : MS), Mo h m S → z2 m (J102 m a1 h) (K102 a1 S) h) (a1 : Int32) (a2 : Int32) (a4 : Int32) (s0 : Int64) (s1 : Int32) (s2 : Nat) (hh : sm_H) (S : MS) (HH : Mo hh m S) : z2 m (fX12_carryOut_287 J102 m a1 a2 a4 s0 s1 (mR m s2) hh) (gM_carryOut_287 K102 a1 a2 a4 s0 s1 s2 S) hh := by
  unfold fX12_carryOut_287 gM_carryOut_287
  refine z2_sJ HH (fun S1 hh HH => ?_)
  refine z2_gR HH (by decide) (by decide) ?_
  refine z2_gR HH (by decide) (by decide) ?_
  refine z2_aI HH (fun x2 => ?_)
  refine z2_ite ?_ ?_
  · refine z2_gR HH (by decide) (by decide) ?_
    refine z2_aI HH (fun x4 => ?_)
    refine z2_sI HH (fun S5 hh HH => ?_)
    exact tM_carryOut_318 m J102 K102 hK102 sm_fuel a1 a2 a4 (0 : Int32) hh S5 HH
  refine z2_sI HH (fun S3 hh HH => ?_)
  exact tM_carryOut_318 m J102 K102 hK102 sm_fuel a1 a2 a4 (0 : Int32) hh S3 HH
noncomputable def gM_carryOut_169 (K102 : Int32 → MS → Option (Unit × MS)) (a1 : Int32) (a2 : Int32) (s0 : Int32) (S : MS) : Option (Unit × MS) :=
  if 0 ≤ s0 then (
    sm_let (((16 : Int32) * a2) + s0) fun x1 =>
    (mRI S 16 2 a2).bind fun x2 =>
    if x2 = 0 then (
      (mRI S 11 0 a2).bind fun x3 =>
      if x3 = (4 : Int32) then (
        gM_carryOut_287 K102 a1 a2 x1 (0 : Int64) x1 17 S
      ) else
      (mRI S 11 0 a2).bind fun x4 =>
      if x4 = (6 : Int32) then (
        gM_carryOut_287 K102 a1 a2 x1 (0 : Int64) x1 17 S
      ) else
      (mRJ S 39 1 a1).bind fun x5 =>
      gM_carryOut_287 K102 a1 a2 x1 x5 x1 17 S
    ) else
    (mRJ S 39 1 a1).bind fun x6 =>
    if (lg_cmp x6 (6 : Int64)) = 0 then (
      (mRI S 15 0 a2).bind fun x12 =>
      mc (gM_dropRow x12 s0 S) fun _ S14 =>
      sm_let (a1 + (1 : Int32)) fun x15 =>
      K102 x15 S14
    ) else
    (mRJ S 39 1 a1).bind fun x7 =>
    if 0 ≤ (lg_cmp x7 (3 : Int64)) then (
      sm_let (a1 + (1 : Int32)) fun x8 =>
      K102 x8 S
    ) else
    (mRJ S 39 1 a1).bind fun x9 =>
    (mWJ S 17 1 x1 x9).bind fun S10 =>
    sm_let (a1 + (1 : Int32)) fun x11 =>
    K102 x11 S10
  ) else
  sm_let (a1 + (1 : Int32)) fun x16 =>
  K102 x16 S
set_option maxRecDepth 100000 in
set_option maxHeartbeats 4000000 in
theorem tM_carryOut_169 (m : Nat) (J102 : Nat → Int32 → sm_H → Option (Unit × sm_H)) (K102 : Int32 → MS → Option (Unit × MS)) (hK102 : ∀ (a1 : Int32) (h : sm_H) (S : MS), Mo h m S → z2 m (J102 m a1 h) (K102 a1 S) h) (a1 : Int32) (a2 : Int32) (s0 : Int32) (hh : sm_H) (S : MS) (HH : Mo hh m S) : z2 m (fX12_carryOut_169 J102 m a1 a2 s0 hh) (gM_carryOut_169 K102 a1 a2 s0 S) hh := by
  unfold fX12_carryOut_169 gM_carryOut_169
  refine z2_ite ?_ ?_
  · refine z2_let (fun x1 => ?_)
    refine z2_gR HH (by decide) (by decide) ?_
    refine z2_aI HH (fun x2 => ?_)
    refine z2_ite ?_ ?_
    · refine z2_gR HH (by decide) (by decide) ?_
      refine z2_gR HH (by decide) (by decide) ?_
      refine z2_aI HH (fun x3 => ?_)
      refine z2_ite ?_ ?_
      · exact tM_carryOut_287 m J102 K102 hK102 a1 a2 x1 (0 : Int64) x1 17 hh S HH
      refine z2_gR HH (by decide) (by decide) ?_
      refine z2_aI HH (fun x4 => ?_)
      refine z2_ite ?_ ?_
      · exact tM_carryOut_287 m J102 K102 hK102 a1 a2 x1 (0 : Int64) x1 17 hh S HH
      refine z2_gR HH (by decide) (by decide) ?_
      refine z2_aJ HH (fun x5 => ?_)
      exact tM_carryOut_287 m J102 K102 hK102 a1 a2 x1 x5 x1 17 hh S HH
    refine z2_gR HH (by decide) (by decide) ?_
    refine z2_aJ HH (fun x6 => ?_)
    refine z2_ite ?_ ?_
    · refine z2_gR HH (by decide) (by decide) ?_
      refine z2_aI HH (fun x12 => ?_)
      refine z2_cV (F := fun b => fX12_dropRow b x12 s0 hh) HH (tM_dropRow_0 m x12 s0 hh S HH) (fun _ S14 hh HH => ?_)
      refine z2_let (fun x15 => ?_)
      exact hK102 x15 hh S14 HH
    refine z2_gR HH (by decide) (by decide) ?_
    refine z2_aJ HH (fun x7 => ?_)
    refine z2_ite ?_ ?_
    · refine z2_let (fun x8 => ?_)
      exact hK102 x8 hh S HH
    refine z2_gR HH (by decide) (by decide) ?_
    refine z2_gR HH (by decide) (by decide) ?_
    refine z2_aJ HH (fun x9 => ?_)
    refine z2_sJ HH (fun S10 hh HH => ?_)
    refine z2_let (fun x11 => ?_)
    exact hK102 x11 hh S10 HH
  refine z2_let (fun x16 => ?_)
  exact hK102 x16 hh S HH
noncomputable def gM_carryOut_102  : Nat → Int32 → MS → Option (Unit × MS)
  | 0 => fun _ _ => none
  | n + 1 => fun a1 S =>
    sm_let (S.1 46) fun x1 =>
    if x1 ≤ a1 then (
      some ((), S)
    ) else
    (mRI S 37 0 a1).bind fun x2 =>
    mc (gM_objectOf 36 ((16 : Int32) * a1) x2 (2 : Int32) S) fun x3 S4 =>
    (mRI S4 15 0 x3).bind fun x5 =>
    if 0 ≤ x5 then (
      (mRI S4 15 0 x3).bind fun x6 =>
      (mRI S4 10 0 x3).bind fun x7 =>
      (mRJ S4 36 1 (((16 : Int32) * a1) + x7)).bind fun x8 =>
      mc (gM_placeOf x6 x8 S4) fun x9 S10 =>
      gM_carryOut_169 (gM_carryOut_102 n) a1 x3 x9 S10
    ) else
    gM_carryOut_169 (gM_carryOut_102 n) a1 x3 (0 : Int32) S4
set_option maxRecDepth 100000 in
set_option maxHeartbeats 4000000 in
theorem tM_carryOut_102 (m : Nat)    (n : Nat) : ∀ (a1 : Int32) (hh : sm_H) (S : MS), Mo hh m S → z2 m (fX12_carryOut_102  n m a1 hh) (gM_carryOut_102  n a1 S) hh := by
  induction n with
  | zero => intro a1 hh S HH; exact z2_none
  | succ n ih =>
    intro a1 hh S HH
    unfold fX12_carryOut_102 gM_carryOut_102
    refine z2_gI HH (by decide) rfl (fun x1 => ?_)
    refine z2_ite ?_ ?_
    · exact z2_ret HH
    refine z2_gR HH (by decide) (by decide) ?_
    refine z2_gR HH (by decide) (by decide) ?_
    refine z2_aI HH (fun x2 => ?_)
    refine z2_cV (F := fun b => fX12_objectOf b (mR m 36) ((16 : Int32) * a1) x2 (2 : Int32) hh) HH (tM_objectOf_0 m 36 ((16 : Int32) * a1) x2 (2 : Int32) hh S HH) (fun x3 S4 hh HH => ?_)
    refine z2_gR HH (by decide) (by decide) ?_
    refine z2_aI HH (fun x5 => ?_)
    refine z2_ite ?_ ?_
    · refine z2_gR HH (by decide) (by decide) ?_
      refine z2_aI HH (fun x6 => ?_)
      refine z2_gR HH (by decide) (by decide) ?_
      refine z2_gR HH (by decide) (by decide) ?_
      refine z2_aI HH (fun x7 => ?_)
      refine z2_aJ HH (fun x8 => ?_)
      refine z2_cV (F := fun b => fX12_placeOf b x6 x8 hh) HH (tM_placeOf_0 m x6 x8 hh S4 HH) (fun x9 S10 hh HH => ?_)
      exact tM_carryOut_169 m (fX12_carryOut_102 n) (gM_carryOut_102 n) ih a1 x3 x9 hh S10 HH
    exact tM_carryOut_169 m (fX12_carryOut_102 n) (gM_carryOut_102 n) ih a1 x3 (0 : Int32) hh S4 HH
noncomputable def gM_carryOut_2  : Nat → Int32 → MS → Option (Unit × MS)
  | 0 => fun _ _ => none
  | n + 1 => fun a1 S =>
    sm_let (S.1 46) fun x1 =>
    if x1 ≤ a1 then (
      gM_carryOut_102 sm_fuel (0 : Int32) S
    ) else
    (mRI S 37 0 a1).bind fun x2 =>
    mc (gM_objectOf 36 ((16 : Int32) * a1) x2 (2 : Int32) S) fun x3 S4 =>
    (mRI S4 16 2 x3).bind fun x5 =>
    if x5 = 0 then (
      sm_let (a1 + (1 : Int32)) fun x6 =>
      (gM_carryOut_2 n) x6 S4
    ) else
    (mRJ S4 39 1 a1).bind fun x7 =>
    mc (gM_in x7 (4 : Int64) (5 : Int64) S4) fun x8 S9 =>
    if x8 = 0 then (
      sm_let (a1 + (1 : Int32)) fun x10 =>
      (gM_carryOut_2 n) x10 S9
    ) else
    (mRI S9 15 0 x3).bind fun x11 =>
    (mRI S9 10 0 x3).bind fun x12 =>
    (mRJ S9 36 1 (((16 : Int32) * a1) + x12)).bind fun x13 =>
    (mRJ S9 39 1 a1).bind fun x14 =>
    mc (gM_makeRow x11 (x13.toInt32) (x14 - (3 : Int64)) S9) fun _ S16 =>
    sm_let (a1 + (1 : Int32)) fun x17 =>
    (gM_carryOut_2 n) x17 S16
set_option maxRecDepth 100000 in
set_option maxHeartbeats 4000000 in
theorem tM_carryOut_2 (m : Nat)    (n : Nat) : ∀ (a1 : Int32) (hh : sm_H) (S : MS), Mo hh m S → z2 m (fX12_carryOut_2  n m a1 hh) (gM_carryOut_2  n a1 S) hh := by
  induction n with
  | zero => intro a1 hh S HH; exact z2_none
  | succ n ih =>
    intro a1 hh S HH
    unfold fX12_carryOut_2 gM_carryOut_2
    refine z2_gI HH (by decide) rfl (fun x1 => ?_)
    refine z2_ite ?_ ?_
    · exact tM_carryOut_102 m sm_fuel (0 : Int32) hh S HH
    refine z2_gR HH (by decide) (by decide) ?_
    refine z2_gR HH (by decide) (by decide) ?_
    refine z2_aI HH (fun x2 => ?_)
    refine z2_cV (F := fun b => fX12_objectOf b (mR m 36) ((16 : Int32) * a1) x2 (2 : Int32) hh) HH (tM_objectOf_0 m 36 ((16 : Int32) * a1) x2 (2 : Int32) hh S HH) (fun x3 S4 hh HH => ?_)
    refine z2_gR HH (by decide) (by decide) ?_
    refine z2_aI HH (fun x5 => ?_)
    refine z2_ite ?_ ?_
    · refine z2_let (fun x6 => ?_)
      exact ih x6 hh S4 HH
    refine z2_gR HH (by decide) (by decide) ?_
    refine z2_aJ HH (fun x7 => ?_)
    refine z2_cS (tM_in_0 m x7 (4 : Int64) (5 : Int64) hh S4 HH) (fun x8 S9 hh HH => ?_)
    refine z2_ite ?_ ?_
    · refine z2_let (fun x10 => ?_)
      exact ih x10 hh S9 HH
    refine z2_gR HH (by decide) (by decide) ?_
    refine z2_aI HH (fun x11 => ?_)
    refine z2_gR HH (by decide) (by decide) ?_
    refine z2_gR HH (by decide) (by decide) ?_
    refine z2_aI HH (fun x12 => ?_)
    refine z2_aJ HH (fun x13 => ?_)
    refine z2_gR HH (by decide) (by decide) ?_
    refine z2_aJ HH (fun x14 => ?_)
    refine z2_cV (F := fun b => fX12_makeRow b x11 (x13.toInt32) (x14 - (3 : Int64)) hh) HH (tM_makeRow_0 m x11 (x13.toInt32) (x14 - (3 : Int64)) hh S9 HH) (fun _ S16 hh HH => ?_)
    refine z2_let (fun x17 => ?_)
    exact ih x17 hh S16 HH
noncomputable def gM_carryOut   (S : MS) : Option (Unit × MS) :=
  gM_carryOut_2 sm_fuel (0 : Int32) S
set_option maxRecDepth 100000 in
set_option maxHeartbeats 4000000 in
theorem tM_carryOut_0 (m : Nat)     (hh : sm_H) (S : MS) (HH : Mo hh m S) : z2 m (fX12_carryOut  m hh) (gM_carryOut  S) hh := by
  unfold fX12_carryOut gM_carryOut
  exact tM_carryOut_2 m sm_fuel (0 : Int32) hh S HH
-- M:TreeAgentModel.find()V
noncomputable def gM_find_41 (K2 : Int32 → MS → Option (Unit × MS)) (a1 : Int32) (S : MS) : Option (Unit × MS) :=
  sm_let (S.1 48) fun x1 =>
  if x1 = 0 then (
    (mRI S 38 0 ((20 : Int32) + a1)).bind fun x3 =>
    if x3 ≤ (127 : Int32) then (
      sm_let (a1 + (1 : Int32)) fun x4 =>
      K2 x4 S
    ) else
    sm_let (S.1 56) fun x5 =>
    if x5 = 0 then (
      sm_let (sI S 56 (2 : Int32)) fun S7 =>
      sm_let (sI S7 57 (a1 + (1 : Int32))) fun S8 =>
      sm_let (a1 + (1 : Int32)) fun x9 =>
      K2 x9 S8
    ) else
    sm_let (a1 + (1 : Int32)) fun x6 =>
    K2 x6 S
  ) else
  sm_let (a1 + (1 : Int32)) fun x2 =>
  K2 x2 S
set_option maxRecDepth 100000 in
set_option maxHeartbeats 4000000 in
theorem tM_find_41 (m : Nat) (J2 : Nat → Int32 → sm_H → Option (Unit × sm_H)) (K2 : Int32 → MS → Option (Unit × MS)) (hK2 : ∀ (a1 : Int32) (h : sm_H) (S : MS), Mo h m S → z2 m (J2 m a1 h) (K2 a1 S) h) (a1 : Int32) (hh : sm_H) (S : MS) (HH : Mo hh m S) : z2 m (fX12_find_41 J2 m a1 hh) (gM_find_41 K2 a1 S) hh := by
  unfold fX12_find_41 gM_find_41
  refine z2_gI HH (by decide) rfl (fun x1 => ?_)
  refine z2_ite ?_ ?_
  · refine z2_gR HH (by decide) (by decide) ?_
    refine z2_aI HH (fun x3 => ?_)
    refine z2_ite ?_ ?_
    · refine z2_let (fun x4 => ?_)
      exact hK2 x4 hh S HH
    refine z2_gI HH (by decide) rfl (fun x5 => ?_)
    refine z2_ite ?_ ?_
    · refine z2_pI HH (by decide) rfl (fun S7 hh HH => ?_)
      refine z2_pI HH (by decide) rfl (fun S8 hh HH => ?_)
      refine z2_let (fun x9 => ?_)
      exact hK2 x9 hh S8 HH
    refine z2_let (fun x6 => ?_)
    exact hK2 x6 hh S HH
  refine z2_let (fun x2 => ?_)
  exact hK2 x2 hh S HH
noncomputable def gM_find_2  : Nat → Int32 → MS → Option (Unit × MS)
  | 0 => fun _ _ => none
  | n + 1 => fun a1 S =>
    sm_let (S.1 46) fun x1 =>
    if x1 ≤ a1 then (
      sm_let (S.1 46) fun x2 =>
      sm_let (sI S 47 x2) fun S3 =>
      some ((), S3)
    ) else
    sm_let (S.1 52) fun x4 =>
    if x4 = (160 : Int32) then (
      mc (gM_get a1 ((20 : Int32) + a1) S) fun _ S8 =>
      gM_find_41 (gM_find_2 n) a1 S8
    ) else
    mc (gM_next a1 ((20 : Int32) + a1) S) fun _ S6 =>
    gM_find_41 (gM_find_2 n) a1 S6
set_option maxRecDepth 100000 in
set_option maxHeartbeats 4000000 in
theorem tM_find_2 (m : Nat)    (n : Nat) : ∀ (a1 : Int32) (hh : sm_H) (S : MS), Mo hh m S → z2 m (fX12_find_2  n m a1 hh) (gM_find_2  n a1 S) hh := by
  induction n with
  | zero => intro a1 hh S HH; exact z2_none
  | succ n ih =>
    intro a1 hh S HH
    unfold fX12_find_2 gM_find_2
    refine z2_gI HH (by decide) rfl (fun x1 => ?_)
    refine z2_ite ?_ ?_
    · refine z2_gI HH (by decide) rfl (fun x2 => ?_)
      refine z2_pI HH (by decide) rfl (fun S3 hh HH => ?_)
      exact z2_ret HH
    refine z2_gI HH (by decide) rfl (fun x4 => ?_)
    refine z2_ite ?_ ?_
    · refine z2_cV (F := fun b => fX12_get b a1 ((20 : Int32) + a1) hh) HH (tM_get_0 m a1 ((20 : Int32) + a1) hh S HH) (fun _ S8 hh HH => ?_)
      exact tM_find_41 m (fX12_find_2 n) (gM_find_2 n) ih a1 hh S8 HH
    refine z2_cV (F := fun b => fX12_next b a1 ((20 : Int32) + a1) hh) HH (tM_next_0 m a1 ((20 : Int32) + a1) hh S HH) (fun _ S6 hh HH => ?_)
    exact tM_find_41 m (fX12_find_2 n) (gM_find_2 n) ih a1 hh S6 HH
noncomputable def gM_find   (S : MS) : Option (Unit × MS) :=
  gM_find_2 sm_fuel (0 : Int32) S
set_option maxRecDepth 100000 in
set_option maxHeartbeats 4000000 in
theorem tM_find_0 (m : Nat)     (hh : sm_H) (S : MS) (HH : Mo hh m S) : z2 m (fX12_find  m hh) (gM_find  S) hh := by
  unfold fX12_find gM_find
  exact tM_find_2 m sm_fuel (0 : Int32) hh S HH
-- M:TreeAgentModel.question()I
noncomputable def gM_question_315   (S : MS) : Option (Int32 × MS) :=
  (mRI S 7 0 (6 : Int32)).bind fun x1 =>
  (mWI S 7 0 (6 : Int32) (x1 + (1 : Int32))).bind fun S2 =>
  (mRI S2 7 0 (7 : Int32)).bind fun x3 =>
  sm_let (S2.1 56) fun x4 =>
  if x4 ≤ 0 then (
    (mWI S2 7 0 (7 : Int32) (x3 + (0 : Int32))).bind fun S5 =>
    sm_let (S5.1 65) fun x6 =>
    some (x6, S5)
  ) else
  (mWI S2 7 0 (7 : Int32) (x3 + (1 : Int32))).bind fun S7 =>
  sm_let (S7.1 65) fun x8 =>
  some (x8, S7)
set_option maxRecDepth 100000 in
set_option maxHeartbeats 4000000 in
theorem tM_question_315 (m : Nat)     (hh : sm_H) (S : MS) (HH : Mo hh m S) : z2 m (fX12_question_315  m hh) (gM_question_315  S) hh := by
  unfold fX12_question_315 gM_question_315
  refine z2_gR HH (by decide) (by decide) ?_
  refine z2_aI HH (fun x1 => ?_)
  refine z2_sI HH (fun S2 hh HH => ?_)
  refine z2_gR HH (by decide) (by decide) ?_
  refine z2_aI HH (fun x3 => ?_)
  refine z2_gI HH (by decide) rfl (fun x4 => ?_)
  refine z2_ite ?_ ?_
  · refine z2_sI HH (fun S5 hh HH => ?_)
    refine z2_gI HH (by decide) rfl (fun x6 => ?_)
    exact z2_ret HH
  refine z2_sI HH (fun S7 hh HH => ?_)
  refine z2_gI HH (by decide) rfl (fun x8 => ?_)
  exact z2_ret HH
noncomputable def gM_question_257  (a2 : Int32) (S : MS) : Option (Int32 × MS) :=
  sm_let (S.1 47) fun x1 =>
  mc (gM_allOctets a2 x1 S) fun x2 S3 =>
  sm_let (S3.1 5) fun x4 =>
  if x2 ≤ x4 then (
    sm_let (S3.1 47) fun x5 =>
    mc (gM_write a2 x5 S3) fun _ S7 =>
    sm_let (S7.1 52) fun x8 =>
    if x8 = (163 : Int32) then (
      sm_let (S7.1 56) fun x9 =>
      if x9 = 0 then (
        mc (gM_carryOut S7) fun _ S11 =>
        gM_question_315 S11
      ) else
      gM_question_315 S7
    ) else
    gM_question_315 S7
  ) else
  (mRI S3 7 0 (5 : Int32)).bind fun x12 =>
  (mWI S3 7 0 (5 : Int32) (x12 + (1 : Int32))).bind fun S13 =>
  some ((0 : Int32), S13)
set_option maxRecDepth 100000 in
set_option maxHeartbeats 4000000 in
theorem tM_question_257 (m : Nat)    (a2 : Int32) (hh : sm_H) (S : MS) (HH : Mo hh m S) : z2 m (fX12_question_257  m a2 hh) (gM_question_257  a2 S) hh := by
  unfold fX12_question_257 gM_question_257
  refine z2_gI HH (by decide) rfl (fun x1 => ?_)
  refine z2_cV (F := fun b => fX12_allOctets b a2 x1 hh) HH (tM_allOctets_0 m a2 x1 hh S HH) (fun x2 S3 hh HH => ?_)
  refine z2_gI HH (by decide) rfl (fun x4 => ?_)
  refine z2_ite ?_ ?_
  · refine z2_gI HH (by decide) rfl (fun x5 => ?_)
    refine z2_cV (F := fun b => fX12_write b a2 x5 hh) HH (tM_write_0 m a2 x5 hh S3 HH) (fun _ S7 hh HH => ?_)
    refine z2_gI HH (by decide) rfl (fun x8 => ?_)
    refine z2_ite ?_ ?_
    · refine z2_gI HH (by decide) rfl (fun x9 => ?_)
      refine z2_ite ?_ ?_
      · refine z2_cV (F := fun b => fX12_carryOut b hh) HH (tM_carryOut_0 m  hh S7 HH) (fun _ S11 hh HH => ?_)
        exact tM_question_315 m   hh S11 HH
      exact tM_question_315 m   hh S7 HH
    exact tM_question_315 m   hh S7 HH
  refine z2_gR HH (by decide) (by decide) ?_
  refine z2_aI HH (fun x12 => ?_)
  refine z2_sI HH (fun S13 hh HH => ?_)
  exact z2_ret HH
noncomputable def gM_question_189  (a2 : Int32) (S : MS) : Option (Int32 × MS) :=
  sm_let (S.1 56) fun x1 =>
  if x1 ≤ 0 then (
    sm_let (S.1 47) fun x2 =>
    mc (gM_allOctets a2 x2 S) fun x3 S4 =>
    sm_let (S4.1 5) fun x5 =>
    if x3 ≤ x5 then (
      gM_question_257 a2 S4
    ) else
    sm_let (sI S4 56 (1 : Int32)) fun S6 =>
    sm_let (sI S6 57 (0 : Int32)) fun S7 =>
    sm_let (S7.1 48) fun x8 =>
    if x8 = (1 : Int32) then (
      sm_let (sI S7 47 (0 : Int32)) fun S11 =>
      gM_question_257 (0 : Int32) S11
    ) else
    sm_let (S7.1 46) fun x9 =>
    sm_let (sI S7 47 x9) fun S10 =>
    gM_question_257 (0 : Int32) S10
  ) else
  sm_let (S.1 46) fun x12 =>
  sm_let (sI S 47 x12) fun S13 =>
  gM_question_257 (0 : Int32) S13
set_option maxRecDepth 100000 in
set_option maxHeartbeats 4000000 in
theorem tM_question_189 (m : Nat)    (a2 : Int32) (hh : sm_H) (S : MS) (HH : Mo hh m S) : z2 m (fX12_question_189  m a2 hh) (gM_question_189  a2 S) hh := by
  unfold fX12_question_189 gM_question_189
  refine z2_gI HH (by decide) rfl (fun x1 => ?_)
  refine z2_ite ?_ ?_
  · refine z2_gI HH (by decide) rfl (fun x2 => ?_)
    refine z2_cV (F := fun b => fX12_allOctets b a2 x2 hh) HH (tM_allOctets_0 m a2 x2 hh S HH) (fun x3 S4 hh HH => ?_)
    refine z2_gI HH (by decide) rfl (fun x5 => ?_)
    refine z2_ite ?_ ?_
    · exact tM_question_257 m  a2 hh S4 HH
    refine z2_pI HH (by decide) rfl (fun S6 hh HH => ?_)
    refine z2_pI HH (by decide) rfl (fun S7 hh HH => ?_)
    refine z2_gI HH (by decide) rfl (fun x8 => ?_)
    refine z2_ite ?_ ?_
    · refine z2_pI HH (by decide) rfl (fun S11 hh HH => ?_)
      exact tM_question_257 m  (0 : Int32) hh S11 HH
    refine z2_gI HH (by decide) rfl (fun x9 => ?_)
    refine z2_pI HH (by decide) rfl (fun S10 hh HH => ?_)
    exact tM_question_257 m  (0 : Int32) hh S10 HH
  refine z2_gI HH (by decide) rfl (fun x12 => ?_)
  refine z2_pI HH (by decide) rfl (fun S13 hh HH => ?_)
  exact tM_question_257 m  (0 : Int32) hh S13 HH
noncomputable def gM_question_156  : Nat → Int32 → Int32 → MS → Option (Int32 × MS)
  | 0 => fun _ _ _ => none
  | n + 1 => fun a2 a3 S =>
    sm_let (S.1 46) fun x1 =>
    if x1 ≤ a3 then (
      gM_question_189 a2 S
    ) else
    sm_let (S.1 56) fun x2 =>
    if x2 = 0 then (
      mc (gM_check a3 S) fun _ S4 =>
      sm_let (a3 + (1 : Int32)) fun x5 =>
      (gM_question_156 n) a2 x5 S4
    ) else
    gM_question_189 a2 S
set_option maxRecDepth 100000 in
set_option maxHeartbeats 4000000 in
theorem tM_question_156 (m : Nat)    (n : Nat) : ∀ (a2 : Int32) (a3 : Int32) (hh : sm_H) (S : MS), Mo hh m S → z2 m (fX12_question_156  n m a2 a3 hh) (gM_question_156  n a2 a3 S) hh := by
  induction n with
  | zero => intro a2 a3 hh S HH; exact z2_none
  | succ n ih =>
    intro a2 a3 hh S HH
    unfold fX12_question_156 gM_question_156
    refine z2_gI HH (by decide) rfl (fun x1 => ?_)
    refine z2_ite ?_ ?_
    · exact tM_question_189 m  a2 hh S HH
    refine z2_gI HH (by decide) rfl (fun x2 => ?_)
    refine z2_ite ?_ ?_
    · refine z2_cV (F := fun b => fX12_check b a3 hh) HH (tM_check_0 m a3 hh S HH) (fun _ S4 hh HH => ?_)
      refine z2_let (fun x5 => ?_)
      exact ih a2 x5 hh S4 HH
    exact tM_question_189 m  a2 hh S HH
noncomputable def gM_question_136  (a2 : Int32) (s0 : Int32) (S : MS) : Option (Int32 × MS) :=
  sm_let (sI S 56 s0) fun S1 =>
  sm_let (sI S1 57 (1 : Int32)) fun S2 =>
  (mRI S2 7 0 (4 : Int32)).bind fun x3 =>
  (mWI S2 7 0 (4 : Int32) (x3 + (1 : Int32))).bind fun S4 =>
  gM_question_156 sm_fuel a2 (0 : Int32) S4
set_option maxRecDepth 100000 in
set_option maxHeartbeats 4000000 in
theorem tM_question_136 (m : Nat)    (a2 : Int32) (s0 : Int32) (hh : sm_H) (S : MS) (HH : Mo hh m S) : z2 m (fX12_question_136  m a2 s0 (some m) hh) (gM_question_136  a2 s0 S) hh := by
  unfold fX12_question_136 gM_question_136
  refine z2_pI HH (by decide) rfl (fun S1 hh HH => ?_)
  refine z2_pI HH (by decide) rfl (fun S2 hh HH => ?_)
  refine z2_gR HH (by decide) (by decide) ?_
  refine z2_aI HH (fun x3 => ?_)
  refine z2_sI HH (fun S4 hh HH => ?_)
  exact tM_question_156 m sm_fuel a2 (0 : Int32) hh S4 HH
noncomputable def gM_question   (S : MS) : Option (Int32 × MS) :=
  sm_let (sI S 0 (0 : Int32)) fun S1 =>
  sm_let (S1.1 2) fun x2 =>
  sm_let (sI S1 2 (0 : Int32)) fun S3 =>
  sm_let (sI S3 65 (0 : Int32)) fun S4 =>
  mc (gM_readAll x2 S4) fun _ S6 =>
  sm_let (S6.1 45) fun x7 =>
  if x7 = 0 then (
    sm_let (sI S6 56 (0 : Int32)) fun S8 =>
    sm_let (sI S8 57 (0 : Int32)) fun S9 =>
    sm_let (sI S9 47 (0 : Int32)) fun S10 =>
    sm_let (S10.1 52) fun x11 =>
    if x11 = (165 : Int32) then (
      mc (gM_many S10) fun _ S22 =>
      gM_question_189 (20 : Int32) S22
    ) else
    sm_let (S10.1 52) fun x12 =>
    if x12 = (163 : Int32) then (
      sm_let (S10.1 46) fun x15 =>
      sm_let (sI S10 47 x15) fun S16 =>
      sm_let (S16.1 49) fun x17 =>
      (mRI S16 31 2 x17).bind fun x18 =>
      if x18 = 0 then (
        sm_let (S16.1 46) fun x19 =>
        if x19 ≤ 0 then (
          gM_question_156 sm_fuel (0 : Int32) (0 : Int32) S16
        ) else
        sm_let (S16.1 48) fun x20 =>
        if x20 = (1 : Int32) then (
          gM_question_136 (0 : Int32) (6 : Int32) S16
        ) else
        gM_question_136 (0 : Int32) (2 : Int32) S16
      ) else
      gM_question_156 sm_fuel (0 : Int32) (0 : Int32) S16
    ) else
    mc (gM_find S10) fun _ S14 =>
    gM_question_189 (20 : Int32) S14
  ) else
  sm_let (S6.1 45) fun x23 =>
  (mRI S6 7 0 x23).bind fun x24 =>
  (mWI S6 7 0 x23 (x24 + (1 : Int32))).bind fun S25 =>
  some ((0 : Int32), S25)
set_option maxRecDepth 100000 in
set_option maxHeartbeats 4000000 in
theorem tM_question_0 (m : Nat)     (hh : sm_H) (S : MS) (HH : Mo hh m S) : z2 m (fX12_question  m hh) (gM_question  S) hh := by
  unfold fX12_question gM_question
  refine z2_pI HH (by decide) rfl (fun S1 hh HH => ?_)
  refine z2_gI HH (by decide) rfl (fun x2 => ?_)
  refine z2_pI HH (by decide) rfl (fun S3 hh HH => ?_)
  refine z2_pI HH (by decide) rfl (fun S4 hh HH => ?_)
  refine z2_cV (F := fun b => fX12_readAll b x2 hh) HH (tM_readAll_0 m x2 hh S4 HH) (fun _ S6 hh HH => ?_)
  refine z2_gI HH (by decide) rfl (fun x7 => ?_)
  refine z2_ite ?_ ?_
  · refine z2_pI HH (by decide) rfl (fun S8 hh HH => ?_)
    refine z2_pI HH (by decide) rfl (fun S9 hh HH => ?_)
    refine z2_pI HH (by decide) rfl (fun S10 hh HH => ?_)
    refine z2_gI HH (by decide) rfl (fun x11 => ?_)
    refine z2_ite ?_ ?_
    · refine z2_cV (F := fun b => fX12_many b hh) HH (tM_many_0 m  hh S10 HH) (fun _ S22 hh HH => ?_)
      exact tM_question_189 m  (20 : Int32) hh S22 HH
    refine z2_gI HH (by decide) rfl (fun x12 => ?_)
    refine z2_ite ?_ ?_
    · refine z2_gI HH (by decide) rfl (fun x15 => ?_)
      refine z2_pI HH (by decide) rfl (fun S16 hh HH => ?_)
      refine z2_gR HH (by decide) (by decide) ?_
      refine z2_gI HH (by decide) rfl (fun x17 => ?_)
      refine z2_aI HH (fun x18 => ?_)
      refine z2_ite ?_ ?_
      · refine z2_gI HH (by decide) rfl (fun x19 => ?_)
        refine z2_ite ?_ ?_
        · exact tM_question_156 m sm_fuel (0 : Int32) (0 : Int32) hh S16 HH
        refine z2_gI HH (by decide) rfl (fun x20 => ?_)
        refine z2_ite ?_ ?_
        · exact tM_question_136 m  (0 : Int32) (6 : Int32) hh S16 HH
        exact tM_question_136 m  (0 : Int32) (2 : Int32) hh S16 HH
      exact tM_question_156 m sm_fuel (0 : Int32) (0 : Int32) hh S16 HH
    refine z2_cV (F := fun b => fX12_find b hh) HH (tM_find_0 m  hh S10 HH) (fun _ S14 hh HH => ?_)
    exact tM_question_189 m  (20 : Int32) hh S14 HH
  refine z2_gR HH (by decide) (by decide) ?_
  refine z2_gI HH (by decide) rfl (fun x23 => ?_)
  refine z2_aI HH (fun x24 => ?_)
  refine z2_sI HH (fun S25 hh HH => ?_)
  exact z2_ret HH
-- M:TreeAgentModel.answer(I)I
noncomputable def gM_answer  (a1 : Int32) (S : MS) : Option (Int32 × MS) :=
  sm_let (sI S 0 (0 : Int32)) fun S1 =>
  sm_let (S1.1 65) fun x2 =>
  mc (gM_in (a1.toInt64) (0 : Int64) ((x2 - (1 : Int32)).toInt64) S1) fun x3 S4 =>
  if x3 = 0 then (
    some ((-1 : Int32), S4)
  ) else
  (mRI S4 63 3 a1).bind fun x5 =>
  some (x5 &&& (255 : Int32), S4)
set_option maxRecDepth 100000 in
set_option maxHeartbeats 4000000 in
theorem tM_answer_0 (m : Nat)    (a1 : Int32) (hh : sm_H) (S : MS) (HH : Mo hh m S) : z2 m (fX12_answer  m a1 hh) (gM_answer  a1 S) hh := by
  unfold fX12_answer gM_answer
  refine z2_pI HH (by decide) rfl (fun S1 hh HH => ?_)
  refine z2_gI HH (by decide) rfl (fun x2 => ?_)
  refine z2_cS (tM_in_0 m (a1.toInt64) (0 : Int64) ((x2 - (1 : Int32)).toInt64) hh S1 HH) (fun x3 S4 hh HH => ?_)
  refine z2_ite ?_ ?_
  · exact z2_ret HH
  refine z2_gR HH (by decide) (by decide) ?_
  refine z2_aI HH (fun x5 => ?_)
  exact z2_ret HH
-- M:TreeAgentModel.count(I)I
noncomputable def gM_count  (a1 : Int32) (S : MS) : Option (Int32 × MS) :=
  sm_let (sI S 0 (0 : Int32)) fun S1 =>
  if a1 = 0 then (
    sm_let (S1.1 8) fun x7 =>
    some (x7, S1)
  ) else
  mc (gM_in (a1.toInt64) (1 : Int64) (7 : Int64) S1) fun x2 S3 =>
  if x2 = 0 then (
    if a1 = (8 : Int32) then (
      sm_let (S3.1 28) fun x5 =>
      some (x5, S3)
    ) else
    if a1 = (9 : Int32) then (
      sm_let (S3.1 22) fun x4 =>
      some (x4, S3)
    ) else
    some ((-2 : Int32), S3)
  ) else
  (mRI S3 7 0 a1).bind fun x6 =>
  some (x6, S3)
set_option maxRecDepth 100000 in
set_option maxHeartbeats 4000000 in
theorem tM_count_0 (m : Nat)    (a1 : Int32) (hh : sm_H) (S : MS) (HH : Mo hh m S) : z2 m (fX12_count  m a1 hh) (gM_count  a1 S) hh := by
  unfold fX12_count gM_count
  refine z2_pI HH (by decide) rfl (fun S1 hh HH => ?_)
  refine z2_ite ?_ ?_
  · refine z2_gI HH (by decide) rfl (fun x7 => ?_)
    exact z2_ret HH
  refine z2_cS (tM_in_0 m (a1.toInt64) (1 : Int64) (7 : Int64) hh S1 HH) (fun x2 S3 hh HH => ?_)
  refine z2_ite ?_ ?_
  · refine z2_ite ?_ ?_
    · refine z2_gI HH (by decide) rfl (fun x5 => ?_)
      exact z2_ret HH
    refine z2_ite ?_ ?_
    · refine z2_gI HH (by decide) rfl (fun x4 => ?_)
      exact z2_ret HH
    exact z2_ret HH
  refine z2_gR HH (by decide) (by decide) ?_
  refine z2_aI HH (fun x6 => ?_)
  exact z2_ret HH
-- M:TreeAgentModel.rows(I)I
noncomputable def gM_rows  (a1 : Int32) (S : MS) : Option (Int32 × MS) :=
  sm_let (sI S 0 (0 : Int32)) fun S1 =>
  sm_let (S1.1 22) fun x2 =>
  mc (gM_in (a1.toInt64) (0 : Int64) ((x2 - (1 : Int32)).toInt64) S1) fun x3 S4 =>
  if x3 = 0 then (
    some ((-1 : Int32), S4)
  ) else
  (mRI S4 26 0 a1).bind fun x5 =>
  some (x5, S4)
set_option maxRecDepth 100000 in
set_option maxHeartbeats 4000000 in
theorem tM_rows_0 (m : Nat)    (a1 : Int32) (hh : sm_H) (S : MS) (HH : Mo hh m S) : z2 m (fX12_rows  m a1 hh) (gM_rows  a1 S) hh := by
  unfold fX12_rows gM_rows
  refine z2_pI HH (by decide) rfl (fun S1 hh HH => ?_)
  refine z2_gI HH (by decide) rfl (fun x2 => ?_)
  refine z2_cS (tM_in_0 m (a1.toInt64) (0 : Int64) ((x2 - (1 : Int32)).toInt64) hh S1 HH) (fun x3 S4 hh HH => ?_)
  refine z2_ite ?_ ?_
  · exact z2_ret HH
  refine z2_gR HH (by decide) (by decide) ?_
  refine z2_aI HH (fun x5 => ?_)
  exact z2_ret HH
-- M:TreeAgentModel.told(II)J
noncomputable def gM_told  (a1 : Int32) (a2 : Int32) (S : MS) : Option (Int64 × MS) :=
  sm_let (sI S 0 (0 : Int32)) fun S1 =>
  mc (gM_instance a1 a2 S1) fun x2 S3 =>
  if 0 ≤ x2 then (
    (mRI S3 11 0 a1).bind fun x4 =>
    if x4 = (4 : Int32) then (
      (mRI S3 19 0 x2).bind fun x9 =>
      some (x9.toInt64, S3)
    ) else
    (mRI S3 11 0 a1).bind fun x5 =>
    if x5 = (6 : Int32) then (
      (mRI S3 21 0 x2).bind fun x8 =>
      some (x8.toInt64, S3)
    ) else
    mc (gM_numberOf a1 x2 S3) fun x6 S7 =>
    some (x6, S7)
  ) else
  some ((-1 : Int64), S3)
set_option maxRecDepth 100000 in
set_option maxHeartbeats 4000000 in
theorem tM_told_0 (m : Nat)    (a1 : Int32) (a2 : Int32) (hh : sm_H) (S : MS) (HH : Mo hh m S) : z2 m (fX12_told  m a1 a2 hh) (gM_told  a1 a2 S) hh := by
  unfold fX12_told gM_told
  refine z2_pI HH (by decide) rfl (fun S1 hh HH => ?_)
  refine z2_cV (F := fun b => fX12_instance b a1 a2 hh) HH (tM_instance_0 m a1 a2 hh S1 HH) (fun x2 S3 hh HH => ?_)
  refine z2_ite ?_ ?_
  · refine z2_gR HH (by decide) (by decide) ?_
    refine z2_aI HH (fun x4 => ?_)
    refine z2_ite ?_ ?_
    · refine z2_gR HH (by decide) (by decide) ?_
      refine z2_aI HH (fun x9 => ?_)
      exact z2_ret HH
    refine z2_gR HH (by decide) (by decide) ?_
    refine z2_aI HH (fun x5 => ?_)
    refine z2_ite ?_ ?_
    · refine z2_gR HH (by decide) (by decide) ?_
      refine z2_aI HH (fun x8 => ?_)
      exact z2_ret HH
    refine z2_cV (F := fun b => fX12_numberOf b a1 x2 hh) HH (tM_numberOf_0 m a1 x2 hh S3 HH) (fun x6 S7 hh HH => ?_)
    exact z2_ret HH
  exact z2_ret HH
-- M:TreeAgentModel.part(III)J
noncomputable def gM_part_43  (a1 : Int32) (a3 : Int32) (a4 : Int32) (S : MS) : Option (Int64 × MS) :=
  (mRI S 11 0 a1).bind fun x1 =>
  if x1 = (4 : Int32) then (
    (mRI S 19 0 a4).bind fun x6 =>
    mc (gM_in (a3.toInt64) (0 : Int64) ((x6 - (1 : Int32)).toInt64) S) fun x7 S8 =>
    if x7 = 0 then (
      some ((-1 : Int64), S8)
    ) else
    (mRI S8 18 3 (((40 : Int32) * a4) + a3)).bind fun x9 =>
    some ((x9 &&& (255 : Int32)).toInt64, S8)
  ) else
  (mRI S 21 0 a4).bind fun x2 =>
  mc (gM_in (a3.toInt64) (0 : Int64) ((x2 - (1 : Int32)).toInt64) S) fun x3 S4 =>
  if x3 = 0 then (
    some ((-1 : Int64), S4)
  ) else
  (mRJ S4 20 1 (((16 : Int32) * a4) + a3)).bind fun x5 =>
  some (x5, S4)
set_option maxRecDepth 100000 in
set_option maxHeartbeats 4000000 in
theorem tM_part_43 (m : Nat)    (a1 : Int32) (a3 : Int32) (a4 : Int32) (hh : sm_H) (S : MS) (HH : Mo hh m S) : z2 m (fX12_part_43  m a1 a3 a4 hh) (gM_part_43  a1 a3 a4 S) hh := by
  unfold fX12_part_43 gM_part_43
  refine z2_gR HH (by decide) (by decide) ?_
  refine z2_aI HH (fun x1 => ?_)
  refine z2_ite ?_ ?_
  · refine z2_gR HH (by decide) (by decide) ?_
    refine z2_aI HH (fun x6 => ?_)
    refine z2_cS (tM_in_0 m (a3.toInt64) (0 : Int64) ((x6 - (1 : Int32)).toInt64) hh S HH) (fun x7 S8 hh HH => ?_)
    refine z2_ite ?_ ?_
    · exact z2_ret HH
    refine z2_gR HH (by decide) (by decide) ?_
    refine z2_aI HH (fun x9 => ?_)
    exact z2_ret HH
  refine z2_gR HH (by decide) (by decide) ?_
  refine z2_aI HH (fun x2 => ?_)
  refine z2_cS (tM_in_0 m (a3.toInt64) (0 : Int64) ((x2 - (1 : Int32)).toInt64) hh S HH) (fun x3 S4 hh HH => ?_)
  refine z2_ite ?_ ?_
  · exact z2_ret HH
  refine z2_gR HH (by decide) (by decide) ?_
  refine z2_aJ HH (fun x5 => ?_)
  exact z2_ret HH
noncomputable def gM_part  (a1 : Int32) (a2 : Int32) (a3 : Int32) (S : MS) : Option (Int64 × MS) :=
  sm_let (sI S 0 (0 : Int32)) fun S1 =>
  mc (gM_instance a1 a2 S1) fun x2 S3 =>
  if x2 < 0 then (
    some ((-1 : Int64), S3)
  ) else
  (mRI S3 11 0 a1).bind fun x4 =>
  if x4 = (4 : Int32) then (
    gM_part_43 a1 a3 x2 S3
  ) else
  (mRI S3 11 0 a1).bind fun x5 =>
  if x5 = (6 : Int32) then (
    gM_part_43 a1 a3 x2 S3
  ) else
  some ((-1 : Int64), S3)
set_option maxRecDepth 100000 in
set_option maxHeartbeats 4000000 in
theorem tM_part_0 (m : Nat)    (a1 : Int32) (a2 : Int32) (a3 : Int32) (hh : sm_H) (S : MS) (HH : Mo hh m S) : z2 m (fX12_part  m a1 a2 a3 hh) (gM_part  a1 a2 a3 S) hh := by
  unfold fX12_part gM_part
  refine z2_pI HH (by decide) rfl (fun S1 hh HH => ?_)
  refine z2_cV (F := fun b => fX12_instance b a1 a2 hh) HH (tM_instance_0 m a1 a2 hh S1 HH) (fun x2 S3 hh HH => ?_)
  refine z2_ite ?_ ?_
  · exact z2_ret HH
  refine z2_gR HH (by decide) (by decide) ?_
  refine z2_aI HH (fun x4 => ?_)
  refine z2_ite ?_ ?_
  · exact tM_part_43 m  a1 a3 x2 hh S3 HH
  refine z2_gR HH (by decide) (by decide) ?_
  refine z2_aI HH (fun x5 => ?_)
  refine z2_ite ?_ ?_
  · exact tM_part_43 m  a1 a3 x2 hh S3 HH
  exact z2_ret HH
