-- gM_text
set_option maxHeartbeats 4000000 in
theorem nM_text {a1 : Int32} {a2 : Int32} {S : MS} (mS : MI S)  : nJ (NW [0, 18, 19, 2] S (fun (r : Int32) (S' : MS) => (S'.1 2).toInt = 0)) (gM_text a1 a2 S) := by
  unfold gM_text
  have FS := fM_rf [0, 18, 19, 2] S
  have L1_ : (0 : Int32).toInt = 0 := rfl
  have L2_ : (1 : Int32).toInt = 1 := rfl
  refine n_sI mS FS (by first | decide | exact hE _ (by decide) | simp) rfl (i_lo _) (i_hi _) (fun S3_ mS3_ FS3_ vS3_ gS3_ hS3_ => ?_)
  have q4_ := congrArg Int32.toInt (gS3_ 2 (by decide))
  have r5_ := mi_f mS3_ 2 rfl
  refine n_let ?_
  refine n_sI mS3_ FS3_ (by first | decide | exact hE _ (by decide) | simp) rfl (by omega) (by omega) (fun S6_ mS6_ FS6_ vS6_ gS6_ hS6_ => ?_)
  have q7_ := congrArg Int32.toInt vS6_
  refine n_cP (nM_instance  mS6_ ) (fun x48_ qx48_ => ?_)
  refine n_lt (fun c9_ => ?_) (fun c9_ => ?_)
  · skip
    have L10_ : (-1 : Int32).toInt = -1 := rfl
    have r11_ := mi_f mS6_ 2 rfl
    exact n_rW mS6_ FS6_ (by omega)
  · skip
    refine n_rI (L := 40) mS6_ (by decide) rfl (by omega) (by omega) (fun x612_ x612_e x612_l x612_u => ?_)
    have L13_ : (4 : Int32).toInt = 4 := rfl
    refine n_eq (fun c14_ => ?_) (fun c14_ => ?_)
    · skip
      have L15_ : (40 : Int32).toInt = 40 := rfl
      refine n_le (fun c16_ => ?_) (fun c16_ => ?_)
      · skip
        have r17_ := mi_f mS6_ 2 rfl
        exact nM_text_52  (by first | decide | (intro k q; exact hE k (by revert q; revert k; decide))) _ _ _ _ _ mS6_ FS6_ (by first | omega | assumption) (by first | omega | assumption) (by first | omega | assumption) (by first | omega | assumption) (by first | omega | assumption) (by first | omega | assumption) (by first | omega | assumption) (by simp only [sm_fuel_eq]; omega)
      · skip
        have L18_ : (-2 : Int32).toInt = -2 := rfl
        have r19_ := mi_f mS6_ 2 rfl
        exact n_rW mS6_ FS6_ (by omega)
    · skip
      have L20_ : (-1 : Int32).toInt = -1 := rfl
      have r21_ := mi_f mS6_ 2 rfl
      exact n_rW mS6_ FS6_ (by omega)

-- gM_identity_61
set_option maxHeartbeats 4000000 in
theorem nM_identity_61 {E : List Nat} {S0 : MS} (hE : ∀ k ∈ [20, 21], k ∈ E) : ∀ (n : Nat) (a3 : Int32) (a4 : Int32) (a5 : Int32) (S : MS), MI S → fM E S0 S → 0 ≤ a3.toInt → a3.toInt ≤ 16 → 0 ≤ a4.toInt → a4.toInt ≤ 639 → 0 ≤ a5.toInt → a5.toInt ≤ 16 → (S.1 4).toInt = 0 → 16 - a5.toInt < (n : Int) → nJ (NW E S0 (fun (r : Int32) (S' : MS) => (S'.1 4).toInt = 0)) (gM_identity_61 n a3 a4 a5 S) := by
  intro n
  induction n with
  | zero => intro a3 a4 a5 S mS FS p0_ p1_ p2_ p3_ p4_ p5_ p6_ m_; exfalso; omega
  | succ n ih =>
    intro a3 a4 a5 S mS FS p0_ p1_ p2_ p3_ p4_ p5_ p6_ m_
    unfold gM_identity_61
    have L1_ : (0 : Int32).toInt = 0 := rfl
    have L2_ : (1 : Int32).toInt = 1 := rfl
    refine n_le (fun c3_ => ?_) (fun c3_ => ?_)
    · skip
      refine n_wI (L := 640) mS FS (by first | decide | exact hE _ (by decide) | simp) (by decide) (by decide) rfl (by omega) (by omega) (by omega) (by omega) (fun S4_ mS4_ FS4_ gS4_ hS4_ kS4_ => ?_)
      have q5_ := congrArg Int32.toInt (congrFun gS4_ 4)
      have r6_ := mi_f mS4_ 4 rfl
      exact n_rW mS4_ FS4_ (by omega)
    · skip
      refine n_rJ (L := 16) (by decide) (by omega) (by omega) (fun x27_ x27_e => ?_)
      have L8_ : (16 : Int32).toInt = 16 := rfl
      try have i9_ : ((16 : Int32) * a4).toInt = 16 * a4.toInt := i_mul (n := 16) rfl (by omega) (by omega)
      try have i10_ : (((16 : Int32) * a4) + a5).toInt = ((16 : Int32) * a4).toInt + a5.toInt := i_add (by omega) (by omega)
      refine n_wJ (L := 10240) mS FS (by first | decide | exact hE _ (by decide) | simp) (by decide) (by omega) (by omega) (fun S11_ mS11_ FS11_ gS11_ hS11_ kS11_ => ?_)
      have q12_ := congrArg Int32.toInt (congrFun gS11_ 4)
      try have i14_ : (a5 + (1 : Int32)).toInt = a5.toInt + (1 : Int32).toInt := i_add (by omega) (by omega)
      refine n_letv (fun x413_ x413_v => ?_)
      have x413_t := congrArg Int32.toInt x413_v
      have r15_ := mi_f mS11_ 4 rfl
      exact ih a3 a4 x413_ S11_ mS11_ FS11_ (by first | omega | assumption) (by first | omega | assumption) (by first | omega | assumption) (by first | omega | assumption) (by first | omega | assumption) (by first | omega | assumption) (by first | omega | assumption) (by omega)

-- gM_identity
set_option maxHeartbeats 4000000 in
theorem nM_identity {a1 : Int32} {a2 : Int32} {S : MS} (mS : MI S)  : nJ (NW [0, 20, 21, 4] S (fun (r : Int32) (S' : MS) => (S'.1 4).toInt = 0)) (gM_identity a1 a2 S) := by
  unfold gM_identity
  have FS := fM_rf [0, 20, 21, 4] S
  have L1_ : (0 : Int32).toInt = 0 := rfl
  have L2_ : (1 : Int32).toInt = 1 := rfl
  refine n_sI mS FS (by first | decide | exact hE _ (by decide) | simp) rfl (i_lo _) (i_hi _) (fun S3_ mS3_ FS3_ vS3_ gS3_ hS3_ => ?_)
  have q4_ := congrArg Int32.toInt (gS3_ 4 (by decide))
  have r5_ := mi_f mS3_ 4 rfl
  refine n_let ?_
  refine n_sI mS3_ FS3_ (by first | decide | exact hE _ (by decide) | simp) rfl (by omega) (by omega) (fun S6_ mS6_ FS6_ vS6_ gS6_ hS6_ => ?_)
  have q7_ := congrArg Int32.toInt vS6_
  refine n_cP (nM_instance  mS6_ ) (fun x48_ qx48_ => ?_)
  refine n_lt (fun c9_ => ?_) (fun c9_ => ?_)
  · skip
    have L10_ : (-1 : Int32).toInt = -1 := rfl
    have r11_ := mi_f mS6_ 4 rfl
    exact n_rW mS6_ FS6_ (by omega)
  · skip
    refine n_rI (L := 40) mS6_ (by decide) rfl (by omega) (by omega) (fun x612_ x612_e x612_l x612_u => ?_)
    have L13_ : (6 : Int32).toInt = 6 := rfl
    refine n_eq (fun c14_ => ?_) (fun c14_ => ?_)
    · skip
      have j15_ := Int32.toInt_toInt64 ((S3_.1 4))
      have L16_ : (2 : Int64).toInt = 2 := rfl
      have L17_ : (16 : Int64).toInt = 16 := rfl
      refine n_cP (nM_in  mS6_ ) (fun x718_ qx718_ => ?_)
      refine n_eq (fun c19_ => ?_) (fun c19_ => ?_)
      · skip
        have L20_ : (-2 : Int32).toInt = -2 := rfl
        have r21_ := mi_f mS6_ 4 rfl
        exact n_rW mS6_ FS6_ (by omega)
      · skip
        have r22_ := mi_f mS6_ 4 rfl
        exact nM_identity_61  (by first | decide | (intro k q; exact hE k (by revert q; revert k; decide))) _ _ _ _ _ mS6_ FS6_ (by first | omega | assumption) (by first | omega | assumption) (by first | omega | assumption) (by first | omega | assumption) (by first | omega | assumption) (by first | omega | assumption) (by first | omega | assumption) (by simp only [sm_fuel_eq]; omega)
    · skip
      have L23_ : (-1 : Int32).toInt = -1 := rfl
      have r24_ := mi_f mS6_ 4 rfl
      exact n_rW mS6_ FS6_ (by omega)

-- gM_communityOf
-- E: P
theorem fstC_r {S : MS} {xs : List Int32} {n : Nat} : ∀ (m c : Nat), c + m ≤ 8 → -1 ≤ (fstC S xs n c m).toInt ∧ (fstC S xs n c m).toInt ≤ 7 ∧ (fstC S xs n c m).toInt < ((c + m : Nat) : Int)
  | 0, c, h => ⟨by unfold fstC; decide, by unfold fstC; decide, by unfold fstC; rw [show (-1 : Int32).toInt = -1 from rfl]; omega⟩
  | m + 1, c, h => by
    unfold fstC
    split
    · rw [show (nI c).toInt = (c : Int) from Int32.toInt_ofNat_of_lt (by omega)]; omega
    · have := fstC_r (S := S) (xs := xs) (n := n) m (c + 1) (by omega)
      omega
theorem nI_e {x : Int32} {B : Nat} (h0 : 0 ≤ x.toInt) (h1 : x.toInt ≤ (B : Int)) : ∃ j, j ≤ B ∧ x = nI j ∧ x.toInt = (j : Int) := by
  have h2 := Int32.toInt_lt x
  refine ⟨x.toInt.toNat, by omega, Int32.toInt_inj.mp ?_, by omega⟩
  rw [show (nI x.toInt.toNat).toInt = (x.toInt.toNat : Int) from Int32.toInt_ofNat_of_lt (by omega)]
  omega
theorem nM_communityOf {L_a1 : Nat} {a1 : Nat} {a2 a3 : Int32} {S : MS} (mS : MI S) (hr_a1 : rowI a1 3 L_a1) (p0 : 0 ≤ a2.toInt) (p1 : a2.toInt ≤ 1200) (p2 : 0 ≤ a3.toInt) (p3 : a3.toInt ≤ 40) (p4 : a2.toInt + a3.toInt ≤ (L_a1 : Int)) : nJ (NP S (fun r : Int32 => -1 ≤ r.toInt ∧ r.toInt ≤ 7 ∧ r.toInt < (S.1 28).toInt)) (gM_communityOf a1 a2 a3 S) := by
  have r28 := mi_f mS 28 rfl
  obtain ⟨fm, h1, rfl, e1⟩ := nI_e (B := 1200) p0 p1
  obtain ⟨n, h2, rfl, e2⟩ := nI_e (B := 40) p2 p3
  obtain ⟨cm, h3, e3, e4⟩ := nI_e (B := 8) r28.1 r28.2
  refine ⟨_, S, g_com (kb := a1) ⟨hr_a1.1, hr_a1.2.1, hr_a1.2.2.1⟩ (by rw [hr_a1.2.2.2]; omega) h2 e3 h3, rfl, ?_⟩
  have := fstC_r (S := S) (xs := slI (S.2.2.1 a1) fm n) (n := n) cm 0 (by omega)
  omega

-- gM_community_54
set_option maxHeartbeats 4000000 in
theorem nM_community_54 {E : List Nat} {S0 : MS} (hE : ∀ k ∈ [28, 29, 30, 31], k ∈ E) : ∀ (n : Nat) (a1 : Int32) (a2 : Int32) (a3 : Int32) (S : MS), MI S → fM E S0 S → a1.toInt = 0 ∨ a1.toInt = 1 → 0 ≤ a2.toInt → a2.toInt ≤ 40 → 0 ≤ a3.toInt → a3.toInt ≤ 40 → (S.1 28).toInt ≤ 7 → (S.1 2).toInt = 0 → 40 - a3.toInt < (n : Int) → nJ (NW E S0 (fun (r : Int32) (S' : MS) => (S'.1 2).toInt = 0)) (gM_community_54 n a1 a2 a3 S) := by
  intro n
  induction n with
  | zero => intro a1 a2 a3 S mS FS p0_ p1_ p2_ p3_ p4_ p5_ p6_ m_; exfalso; omega
  | succ n ih =>
    intro a1 a2 a3 S mS FS p0_ p1_ p2_ p3_ p4_ p5_ p6_ m_
    unfold gM_community_54
    have L1_ : (0 : Int32).toInt = 0 := rfl
    have L2_ : (1 : Int32).toInt = 1 := rfl
    refine n_le (fun c3_ => ?_) (fun c3_ => ?_)
    · skip
      have r4_ := mi_f mS 28 rfl
      refine n_let ?_
      refine n_wI (L := 8) mS FS (by first | decide | exact hE _ (by decide) | simp) (by decide) (by decide) rfl (by omega) (by omega) (by omega) (by omega) (fun S5_ mS5_ FS5_ gS5_ hS5_ kS5_ => ?_)
      have q6_ := congrArg Int32.toInt (congrFun gS5_ 2)
      have q7_ := congrArg Int32.toInt (congrFun gS5_ 28)
      have r8_ := mi_f mS5_ 28 rfl
      refine n_let ?_
      have j9_ := nar_r (x := a1) (by omega)
      refine n_wI (L := 8) mS5_ FS5_ (by first | decide | exact hE _ (by decide) | simp) (by decide) (by decide) rfl (by omega) (by omega) (by omega) (by omega) (fun S10_ mS10_ FS10_ gS10_ hS10_ kS10_ => ?_)
      have q11_ := congrArg Int32.toInt (congrFun gS10_ 2)
      have q12_ := congrArg Int32.toInt (congrFun gS10_ 28)
      have r13_ := mi_f mS10_ 28 rfl
      refine n_let ?_
      try have i14_ : ((S10_.1 28) + (1 : Int32)).toInt = (S10_.1 28).toInt + (1 : Int32).toInt := i_add (by omega) (by omega)
      refine n_sI mS10_ FS10_ (by first | decide | exact hE _ (by decide) | simp) rfl (by omega) (by omega) (fun S15_ mS15_ FS15_ vS15_ gS15_ hS15_ => ?_)
      have q16_ := congrArg Int32.toInt (gS15_ 2 (by decide))
      have q17_ := congrArg Int32.toInt vS15_
      have r18_ := mi_f mS15_ 28 rfl
      refine n_let ?_
      try have i19_ : ((S15_.1 28) - (1 : Int32)).toInt = (S15_.1 28).toInt - (1 : Int32).toInt := i_sub (by omega) (by omega)
      have r20_ := mi_f mS15_ 2 rfl
      exact n_rW mS15_ FS15_ (by omega)
    · skip
      have r21_ := mi_f mS 28 rfl
      refine n_let ?_
      refine n_rI (L := 1200) mS (by decide) rfl (by omega) (by omega) (fun x922_ x922_e x922_l x922_u => ?_)
      have L23_ : (40 : Int32).toInt = 40 := rfl
      try have i24_ : ((40 : Int32) * (S.1 28)).toInt = 40 * (S.1 28).toInt := i_mul (n := 40) rfl (by omega) (by omega)
      try have i25_ : (((40 : Int32) * (S.1 28)) + a3).toInt = ((40 : Int32) * (S.1 28)).toInt + a3.toInt := i_add (by omega) (by omega)
      refine n_wI (L := 320) mS FS (by first | decide | exact hE _ (by decide) | simp) (by decide) (by decide) rfl (by omega) (by omega) (i_lo _) (i_hi _) (fun S26_ mS26_ FS26_ gS26_ hS26_ kS26_ => ?_)
      have q27_ := congrArg Int32.toInt (congrFun gS26_ 2)
      have q28_ := congrArg Int32.toInt (congrFun gS26_ 28)
      try have i30_ : (a3 + (1 : Int32)).toInt = a3.toInt + (1 : Int32).toInt := i_add (by omega) (by omega)
      refine n_letv (fun x1129_ x1129_v => ?_)
      have x1129_t := congrArg Int32.toInt x1129_v
      have r31_ := mi_f mS26_ 28 rfl
      have r32_ := mi_f mS26_ 2 rfl
      exact ih a1 a2 x1129_ S26_ mS26_ FS26_ (by first | omega | assumption) (by first | omega | assumption) (by first | omega | assumption) (by first | omega | assumption) (by first | omega | assumption) (by first | omega | assumption) (by first | omega | assumption) (by omega)

-- gM_community
set_option maxHeartbeats 4000000 in
theorem nM_community {a1 : Int32} {S : MS} (mS : MI S)  (p0_ : a1.toInt = 0 ∨ a1.toInt = 1) : nJ (NW [0, 2, 28, 29, 30, 31] S (fun (r : Int32) (S' : MS) => (S'.1 2).toInt = 0)) (gM_community a1 S) := by
  unfold gM_community
  have FS := fM_rf [0, 2, 28, 29, 30, 31] S
  have L1_ : (0 : Int32).toInt = 0 := rfl
  have L2_ : (1 : Int32).toInt = 1 := rfl
  refine n_sI mS FS (by first | decide | exact hE _ (by decide) | simp) rfl (i_lo _) (i_hi _) (fun S3_ mS3_ FS3_ vS3_ gS3_ hS3_ => ?_)
  have q4_ := congrArg Int32.toInt (gS3_ 2 (by decide))
  have q5_ := congrArg Int32.toInt (gS3_ 28 (by decide))
  have r6_ := mi_f mS3_ 2 rfl
  refine n_let ?_
  refine n_sI mS3_ FS3_ (by first | decide | exact hE _ (by decide) | simp) rfl (by omega) (by omega) (fun S7_ mS7_ FS7_ vS7_ gS7_ hS7_ => ?_)
  have q8_ := congrArg Int32.toInt (gS7_ 28 (by decide))
  have q9_ := congrArg Int32.toInt vS7_
  have L10_ : (40 : Int32).toInt = 40 := rfl
  refine n_le (fun c11_ => ?_) (fun c11_ => ?_)
  · skip
    refine n_cP (nM_communityOf (L_a1 := 1200) mS7_ (by decide) (by first | omega | assumption) (by first | omega | assumption) (by first | omega | assumption) (by first | omega | assumption) (by first | omega | assumption)) (fun x412_ qx412_ => ?_)
    refine n_lt (fun c13_ => ?_) (fun c13_ => ?_)
    · skip
      have r14_ := mi_f mS7_ 28 rfl
      refine n_let ?_
      have L15_ : (8 : Int32).toInt = 8 := rfl
      refine n_eq (fun c16_ => ?_) (fun c16_ => ?_)
      · skip
        have L17_ : (-4 : Int32).toInt = -4 := rfl
        have r18_ := mi_f mS7_ 2 rfl
        exact n_rW mS7_ FS7_ (by omega)
      · skip
        have r19_ := mi_f mS7_ 2 rfl
        exact nM_community_54  (by first | decide | (intro k q; exact hE k (by revert q; revert k; decide))) _ _ _ _ _ mS7_ FS7_ (by first | omega | assumption) (by first | omega | assumption) (by first | omega | assumption) (by first | omega | assumption) (by first | omega | assumption) (by first | omega | assumption) (by first | omega | assumption) (by simp only [sm_fuel_eq]; omega)
    · skip
      have L20_ : (-3 : Int32).toInt = -3 := rfl
      have r21_ := mi_f mS7_ 2 rfl
      exact n_rW mS7_ FS7_ (by omega)
  · skip
    have L22_ : (-2 : Int32).toInt = -2 := rfl
    have r23_ := mi_f mS7_ 2 rfl
    exact n_rW mS7_ FS7_ (by omega)

-- gM_view_80
-- E: W 32 33 34 35
set_option maxHeartbeats 4000000 in
theorem nM_view_80 {E : List Nat} {S0 : MS} (hE : ∀ k ∈ [32, 33, 34, 35], k ∈ E) : ∀ (n : Nat) (a1 a2 a3 a4 a5 : Int32) (S : MS), MI S → fM E S0 S → 0 ≤ a1.toInt → a1.toInt ≤ 7 → (a2.toInt = 0 ∨ a2.toInt = 1) → 0 ≤ a3.toInt → a3.toInt ≤ 16 → 0 ≤ a4.toInt → a4.toInt ≤ 63 → 0 ≤ a5.toInt → a5.toInt ≤ 16 → (S.2.2.1 32 a1.toInt.toNat).toInt ≤ 7 → 16 - a5.toInt < (n : Int) → nJ (NW E S0 (fun (_ : Int32) (_ : MS) => True)) (gM_view_80 n a1 a2 a3 a4 a5 S) := by
  have L1 : (1 : Int32).toInt = 1 := rfl
  intro n
  induction n with
  | zero => intro a1 a2 a3 a4 a5 S m F p0 p1 p2 p3 p4 p5 p6 p7 p8 p9 q; exfalso; omega
  | succ n ih =>
    intro a1 a2 a3 a4 a5 S m F p0 p1 p2 p3 p4 p5 p6 p7 p8 p9 q
    unfold gM_view_80
    have nb := nar_r p2
    refine n_le (fun c => ?_) (fun c => ?_)
    · refine n_wI (L := 64) m F (hE _ (by decide)) (by decide) (by decide) rfl (by omega) (by omega) (by omega) (by omega) (fun S1 m1 F1 g1 h1 k1 => ?_)
      refine n_wI (L := 64) m1 F1 (hE _ (by decide)) (by decide) (by decide) rfl (by omega) (by omega) (by omega) (by omega) (fun S2 m2 F2 g2 h2 k2 => ?_)
      refine n_rI (L := 8) m2 (by decide) rfl (by omega) (by omega) (fun x3 e3 l3 u3 => ?_)
      have hx : x3.toInt ≤ 7 := by rw [e3, h2 32 (by decide), h1 32 (by decide)]; exact p9
      have i3 : (x3 + 1).toInt = x3.toInt + 1 := i_add1 (by omega)
      refine n_wI (L := 8) m2 F2 (hE _ (by decide)) (by decide) (by decide) rfl (by omega) (by omega) (by omega) (by omega) (fun S4 m4 F4 g4 h4 k4 => ?_)
      refine n_rI (L := 8) m4 (by decide) rfl (by omega) (by omega) (fun x5 e5 l5 u5 => ?_)
      exact n_rW m4 F4 trivial
    · have i1 : ((16 : Int32) * a4).toInt = 16 * a4.toInt := i_mul (n := 16) rfl (by omega) (by omega)
      have i2 : ((16 : Int32) * a4 + a5).toInt = ((16 : Int32) * a4).toInt + a5.toInt := i_add (by omega) (by omega)
      have i3 : (a5 + 1).toInt = a5.toInt + 1 := i_add1 (by omega)
      refine n_rJ (L := 16) (by decide) (by omega) (by omega) (fun x6 e6 => ?_)
      refine n_wJ (L := 1024) m F (hE _ (by decide)) (by decide) (by omega) (by omega) (fun S7 m7 F7 g7 h7 k7 => ?_)
      refine n_let ?_
      exact ih _ _ _ _ _ _ m7 F7 p0 p1 p2 p3 p4 p5 p6 (by omega) (by omega) (by rw [h7]; exact p9) (by omega)
