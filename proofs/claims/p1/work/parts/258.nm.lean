-- gM_readAll_101
set_option maxHeartbeats 4000000 in
theorem nM_readAll_101 {a1 : Int32} {a2 : Int32} {s0 : Int32} {S : MS} (mS : MI S)  (p0_ : 0 ≤ a1.toInt) (p1_ : a1.toInt ≤ 1200) (p2_ : 0 ≤ a2.toInt) (p3_ : a2.toInt ≤ 1200) (p4_ : 0 ≤ s0.toInt) (p5_ : s0.toInt ≤ 1200) (p6_ : (S.1 44).toInt ≤ s0.toInt) : nJ (NW [36, 37, 38, 39, 40, 41, 42, 43, 44, 45, 46, 49, 50, 51, 52, 53, 54, 55, 58] S (fun (r : Unit) (S' : MS) => (S'.1 45).toInt ≠ 0 ∨ (0 ≤ (S'.1 49).toInt ∧ (S'.1 51).toInt ≤ 40 ∧ (S'.1 50).toInt + (S'.1 51).toInt ≤ 1200))) (gM_readAll_101 a1 a2 s0 S) := by
  unfold gM_readAll_101
  have FS := fM_rf [36, 37, 38, 39, 40, 41, 42, 43, 44, 45, 46, 49, 50, 51, 52, 53, 54, 55, 58] S
  have L1_ : (0 : Int32).toInt = 0 := rfl
  have L2_ : (1 : Int32).toInt = 1 := rfl
  have r3_ := mi_f mS 44 rfl
  refine n_let ?_
  refine n_sI mS FS (by first | decide | exact hE _ (by decide) | simp) rfl (by omega) (by omega) (fun S4_ mS4_ FS4_ vS4_ gS4_ hS4_ => ?_)
  have q5_ := congrArg Int32.toInt (gS4_ 44 (by decide))
  have q6_ := congrArg Int32.toInt (gS4_ 45 (by decide))
  have q7_ := congrArg Int32.toInt (gS4_ 46 (by decide))
  have q8_ := congrArg Int32.toInt (gS4_ 48 (by decide))
  have q9_ := congrArg Int32.toInt (gS4_ 49 (by decide))
  have q10_ := congrArg Int32.toInt (gS4_ 51 (by decide))
  have q11_ := congrArg Int32.toInt (gS4_ 52 (by decide))
  have q12_ := congrArg Int32.toInt vS4_
  have r13_ := mi_f mS4_ 44 rfl
  refine n_let ?_
  try have i14_ : (s0 - (S4_.1 44)).toInt = s0.toInt - (S4_.1 44).toInt := i_sub (by omega) (by omega)
  refine n_sI mS4_ FS4_ (by first | decide | exact hE _ (by decide) | simp) rfl (by omega) (by omega) (fun S15_ mS15_ FS15_ vS15_ gS15_ hS15_ => ?_)
  have q16_ := congrArg Int32.toInt (gS15_ 44 (by decide))
  have q17_ := congrArg Int32.toInt (gS15_ 45 (by decide))
  have q18_ := congrArg Int32.toInt (gS15_ 46 (by decide))
  have q19_ := congrArg Int32.toInt (gS15_ 48 (by decide))
  have q20_ := congrArg Int32.toInt (gS15_ 49 (by decide))
  have q21_ := congrArg Int32.toInt (gS15_ 50 (by decide))
  have q22_ := congrArg Int32.toInt (gS15_ 52 (by decide))
  have q23_ := congrArg Int32.toInt vS15_
  have r24_ := mi_f mS15_ 45 rfl
  refine n_let ?_
  refine n_eq (fun c25_ => ?_) (fun c25_ => ?_)
  · skip
    have r26_ := mi_f mS15_ 51 rfl
    refine n_let ?_
    have L27_ : (40 : Int32).toInt = 40 := rfl
    refine n_le (fun c28_ => ?_) (fun c28_ => ?_)
    · skip
      have r29_ := mi_f mS15_ 50 rfl
      exact n_WW FS15_ (nM_readAll_141  mS15_ (by first | omega | assumption) (by first | omega | assumption) (by first | omega | assumption) (by first | omega | assumption) (by first | omega | assumption) (by first | omega | assumption) (by first | omega | assumption) (by first | omega | assumption)) (by first | decide | (intro k q; exact hE k (by revert q; revert k; decide))) (fun _ _ _ f q => by first | exact q | trivial | omega)
    · skip
      refine n_sI mS15_ FS15_ (by first | decide | exact hE _ (by decide) | simp) rfl (by omega) (by omega) (fun S30_ mS30_ FS30_ vS30_ gS30_ hS30_ => ?_)
      have q31_ := congrArg Int32.toInt (gS30_ 44 (by decide))
      have q32_ := congrArg Int32.toInt (gS30_ 46 (by decide))
      have q33_ := congrArg Int32.toInt (gS30_ 48 (by decide))
      have q34_ := congrArg Int32.toInt (gS30_ 49 (by decide))
      have q35_ := congrArg Int32.toInt (gS30_ 50 (by decide))
      have q36_ := congrArg Int32.toInt (gS30_ 51 (by decide))
      have q37_ := congrArg Int32.toInt (gS30_ 52 (by decide))
      have q38_ := congrArg Int32.toInt vS30_
      have r39_ := mi_f mS30_ 51 rfl
      have r40_ := mi_f mS30_ 45 rfl
      have r41_ := mi_f mS30_ 50 rfl
      exact n_WW FS30_ (nM_readAll_141  mS30_ (by first | omega | assumption) (by first | omega | assumption) (by first | omega | assumption) (by first | omega | assumption) (by first | omega | assumption) (by first | omega | assumption) (by first | omega | assumption) (by first | omega | assumption)) (by first | decide | (intro k q; exact hE k (by revert q; revert k; decide))) (fun _ _ _ f q => by first | exact q | trivial | omega)
  · skip
    have r42_ := mi_f mS15_ 51 rfl
    have r43_ := mi_f mS15_ 50 rfl
    exact n_WW FS15_ (nM_readAll_141  mS15_ (by first | omega | assumption) (by first | omega | assumption) (by first | omega | assumption) (by first | omega | assumption) (by first | omega | assumption) (by first | omega | assumption) (by first | omega | assumption) (by first | omega | assumption)) (by first | decide | (intro k q; exact hE k (by revert q; revert k; decide))) (fun _ _ _ f q => by first | exact q | trivial | omega)

-- gM_readAll_81
set_option maxHeartbeats 4000000 in
theorem nM_readAll_81 {a1 : Int32} {a2 : Int32} {S : MS} (mS : MI S)  (p0_ : 0 ≤ a1.toInt) (p1_ : a1.toInt ≤ 1200) (p2_ : 0 ≤ a2.toInt) (p3_ : a2.toInt ≤ 1200) : nJ (NW [36, 37, 38, 39, 40, 41, 42, 43, 44, 45, 46, 49, 50, 51, 52, 53, 54, 55, 58] S (fun (r : Unit) (S' : MS) => (S'.1 45).toInt ≠ 0 ∨ (0 ≤ (S'.1 49).toInt ∧ (S'.1 51).toInt ≤ 40 ∧ (S'.1 50).toInt + (S'.1 51).toInt ≤ 1200))) (gM_readAll_81 a1 a2 S) := by
  unfold gM_readAll_81
  have FS := fM_rf [36, 37, 38, 39, 40, 41, 42, 43, 44, 45, 46, 49, 50, 51, 52, 53, 54, 55, 58] S
  have L1_ : (0 : Int32).toInt = 0 := rfl
  have L2_ : (1 : Int32).toInt = 1 := rfl
  have r3_ := mi_f mS 45 rfl
  refine n_let ?_
  refine n_eq (fun c4_ => ?_) (fun c4_ => ?_)
  · skip
    have L5_ : (4 : Int32).toInt = 4 := rfl
    refine n_cW FS (nM_field  mS (by first | omega | assumption) (by first | omega | assumption)) (by first | decide | (intro k q; exact hE k (by revert q; revert k; decide))) (fun x36_ S7_ mS7_ FS7_ fS7_ qx36_ => ?_)
    have q8_ := congrArg Int32.toInt (fS7_.1 46 (by decide))
    have q9_ := congrArg Int32.toInt (fS7_.1 48 (by decide))
    have q10_ := congrArg Int32.toInt (fS7_.1 49 (by decide))
    have q11_ := congrArg Int32.toInt (fS7_.1 50 (by decide))
    have q12_ := congrArg Int32.toInt (fS7_.1 51 (by decide))
    have q13_ := congrArg Int32.toInt (fS7_.1 52 (by decide))
    have r14_ := mi_f mS7_ 44 rfl
    have r15_ := mi_f mS7_ 45 rfl
    exact n_WW FS7_ (nM_readAll_101  mS7_ (by first | omega | assumption) (by first | omega | assumption) (by first | omega | assumption) (by first | omega | assumption) (by first | omega | assumption) (by first | omega | assumption) (by first | omega | assumption)) (by first | decide | (intro k q; exact hE k (by revert q; revert k; decide))) (fun _ _ _ f q => by first | exact q | trivial | omega)
  · skip
    have r16_ := mi_f mS 44 rfl
    refine n_let ?_
    exact n_WW FS (nM_readAll_101  mS (by first | omega | assumption) (by first | omega | assumption) (by first | omega | assumption) (by first | omega | assumption) (by first | omega | assumption) (by first | omega | assumption) (by first | omega | assumption)) (by first | decide | (intro k q; exact hE k (by revert q; revert k; decide))) (fun _ _ _ f q => by first | exact q | trivial | omega)

-- gM_readAll_44
set_option maxHeartbeats 4000000 in
theorem nM_readAll_44 {a1 : Int32} {a2 : Int32} {s0 : Int32} {S : MS} (mS : MI S)  (p0_ : 0 ≤ a1.toInt) (p1_ : a1.toInt ≤ 1200) (p2_ : 0 ≤ a2.toInt) (p3_ : a2.toInt ≤ 1200) (p4_ : 0 ≤ s0.toInt) (p5_ : s0.toInt ≤ 3) : nJ (NW [36, 37, 38, 39, 40, 41, 42, 43, 44, 45, 46, 48, 49, 50, 51, 52, 53, 54, 55, 58] S (fun (r : Unit) (S' : MS) => (S'.1 45).toInt ≠ 0 ∨ (0 ≤ (S'.1 49).toInt ∧ (S'.1 51).toInt ≤ 40 ∧ (S'.1 50).toInt + (S'.1 51).toInt ≤ 1200))) (gM_readAll_44 a1 a2 s0 S) := by
  unfold gM_readAll_44
  have FS := fM_rf [36, 37, 38, 39, 40, 41, 42, 43, 44, 45, 46, 48, 49, 50, 51, 52, 53, 54, 55, 58] S
  have L1_ : (0 : Int32).toInt = 0 := rfl
  have L2_ : (1 : Int32).toInt = 1 := rfl
  refine n_sI mS FS (by first | decide | exact hE _ (by decide) | simp) rfl (by omega) (by omega) (fun S3_ mS3_ FS3_ vS3_ gS3_ hS3_ => ?_)
  have q4_ := congrArg Int32.toInt (gS3_ 44 (by decide))
  have q5_ := congrArg Int32.toInt (gS3_ 46 (by decide))
  have q6_ := congrArg Int32.toInt (gS3_ 48 (by decide))
  have q7_ := congrArg Int32.toInt (gS3_ 49 (by decide))
  have q8_ := congrArg Int32.toInt (gS3_ 50 (by decide))
  have q9_ := congrArg Int32.toInt (gS3_ 51 (by decide))
  have q10_ := congrArg Int32.toInt (gS3_ 52 (by decide))
  have q11_ := congrArg Int32.toInt vS3_
  refine n_cW FS3_ (nM_integer  mS3_ (by first | omega | assumption) (by first | omega | assumption)) (by first | decide | (intro k q; exact hE k (by revert q; revert k; decide))) (fun x212_ S13_ mS13_ FS13_ fS13_ qx212_ => ?_)
  have q14_ := congrArg Int32.toInt (fS13_.1 46 (by decide))
  have q15_ := congrArg Int32.toInt (fS13_.1 48 (by decide))
  have q16_ := congrArg Int32.toInt (fS13_.1 49 (by decide))
  have q17_ := congrArg Int32.toInt (fS13_.1 50 (by decide))
  have q18_ := congrArg Int32.toInt (fS13_.1 51 (by decide))
  have q19_ := congrArg Int32.toInt (fS13_.1 52 (by decide))
  refine n_sI mS13_ FS13_ (by first | decide | exact hE _ (by decide) | simp) rfl (i_lo _) (i_hi _) (fun S20_ mS20_ FS20_ vS20_ gS20_ hS20_ => ?_)
  have q21_ := congrArg Int32.toInt (gS20_ 44 (by decide))
  have q22_ := congrArg Int32.toInt (gS20_ 45 (by decide))
  have q23_ := congrArg Int32.toInt (gS20_ 46 (by decide))
  have q24_ := congrArg Int32.toInt (gS20_ 49 (by decide))
  have q25_ := congrArg Int32.toInt (gS20_ 50 (by decide))
  have q26_ := congrArg Int32.toInt (gS20_ 51 (by decide))
  have q27_ := congrArg Int32.toInt (gS20_ 52 (by decide))
  have q28_ := congrArg Int32.toInt vS20_
  have r29_ := mi_f mS20_ 45 rfl
  refine n_let ?_
  refine n_eq (fun c30_ => ?_) (fun c30_ => ?_)
  · skip
    refine n_let ?_
    have j31_ := Int32.toInt_toInt64 ((S20_.1 48))
    have L32_ : (0 : Int64).toInt = 0 := rfl
    have L33_ : (1 : Int64).toInt = 1 := rfl
    refine n_cP (nM_in  mS20_ ) (fun x734_ qx734_ => ?_)
    refine n_eq (fun c35_ => ?_) (fun c35_ => ?_)
    · skip
      have L36_ : (2 : Int32).toInt = 2 := rfl
      refine n_sI mS20_ FS20_ (by first | decide | exact hE _ (by decide) | simp) rfl (by omega) (by omega) (fun S37_ mS37_ FS37_ vS37_ gS37_ hS37_ => ?_)
      have q38_ := congrArg Int32.toInt (gS37_ 44 (by decide))
      have q39_ := congrArg Int32.toInt (gS37_ 46 (by decide))
      have q40_ := congrArg Int32.toInt (gS37_ 48 (by decide))
      have q41_ := congrArg Int32.toInt (gS37_ 49 (by decide))
      have q42_ := congrArg Int32.toInt (gS37_ 50 (by decide))
      have q43_ := congrArg Int32.toInt (gS37_ 51 (by decide))
      have q44_ := congrArg Int32.toInt (gS37_ 52 (by decide))
      have q45_ := congrArg Int32.toInt vS37_
      exact n_WW FS37_ (nM_readAll_81  mS37_ (by first | omega | assumption) (by first | omega | assumption) (by first | omega | assumption) (by first | omega | assumption)) (by first | decide | (intro k q; exact hE k (by revert q; revert k; decide))) (fun _ _ _ f q => by first | exact q | trivial | omega)
    · skip
      exact n_WW FS20_ (nM_readAll_81  mS20_ (by first | omega | assumption) (by first | omega | assumption) (by first | omega | assumption) (by first | omega | assumption)) (by first | decide | (intro k q; exact hE k (by revert q; revert k; decide))) (fun _ _ _ f q => by first | exact q | trivial | omega)
  · skip
    exact n_WW FS20_ (nM_readAll_81  mS20_ (by first | omega | assumption) (by first | omega | assumption) (by first | omega | assumption) (by first | omega | assumption)) (by first | decide | (intro k q; exact hE k (by revert q; revert k; decide))) (fun _ _ _ f q => by first | exact q | trivial | omega)

-- gM_readAll
set_option maxHeartbeats 4000000 in
theorem nM_readAll {a1 : Int32} {S : MS} (mS : MI S)  (p0_ : 0 ≤ a1.toInt) (p1_ : a1.toInt ≤ 1200) : nJ (NW [36, 37, 38, 39, 40, 41, 42, 43, 44, 45, 46, 48, 49, 50, 51, 52, 53, 54, 55, 58] S (fun (r : Unit) (S' : MS) => (S'.1 45).toInt ≠ 0 ∨ (0 ≤ (S'.1 49).toInt ∧ (S'.1 51).toInt ≤ 40 ∧ (S'.1 50).toInt + (S'.1 51).toInt ≤ 1200))) (gM_readAll a1 S) := by
  unfold gM_readAll
  have FS := fM_rf [36, 37, 38, 39, 40, 41, 42, 43, 44, 45, 46, 48, 49, 50, 51, 52, 53, 54, 55, 58] S
  have L1_ : (0 : Int32).toInt = 0 := rfl
  have L2_ : (1 : Int32).toInt = 1 := rfl
  refine n_sI mS FS (by first | decide | exact hE _ (by decide) | simp) rfl (by omega) (by omega) (fun S3_ mS3_ FS3_ vS3_ gS3_ hS3_ => ?_)
  have q4_ := congrArg Int32.toInt (gS3_ 44 (by decide))
  have q5_ := congrArg Int32.toInt (gS3_ 46 (by decide))
  have q6_ := congrArg Int32.toInt (gS3_ 48 (by decide))
  have q7_ := congrArg Int32.toInt (gS3_ 49 (by decide))
  have q8_ := congrArg Int32.toInt (gS3_ 50 (by decide))
  have q9_ := congrArg Int32.toInt (gS3_ 51 (by decide))
  have q10_ := congrArg Int32.toInt (gS3_ 52 (by decide))
  have q11_ := congrArg Int32.toInt vS3_
  refine n_sI mS3_ FS3_ (by first | decide | exact hE _ (by decide) | simp) rfl (by omega) (by omega) (fun S12_ mS12_ FS12_ vS12_ gS12_ hS12_ => ?_)
  have q13_ := congrArg Int32.toInt (gS12_ 45 (by decide))
  have q14_ := congrArg Int32.toInt (gS12_ 46 (by decide))
  have q15_ := congrArg Int32.toInt (gS12_ 48 (by decide))
  have q16_ := congrArg Int32.toInt (gS12_ 49 (by decide))
  have q17_ := congrArg Int32.toInt (gS12_ 50 (by decide))
  have q18_ := congrArg Int32.toInt (gS12_ 51 (by decide))
  have q19_ := congrArg Int32.toInt (gS12_ 52 (by decide))
  have q20_ := congrArg Int32.toInt vS12_
  refine n_sI mS12_ FS12_ (by first | decide | exact hE _ (by decide) | simp) rfl (by omega) (by omega) (fun S21_ mS21_ FS21_ vS21_ gS21_ hS21_ => ?_)
  have q22_ := congrArg Int32.toInt (gS21_ 44 (by decide))
  have q23_ := congrArg Int32.toInt (gS21_ 45 (by decide))
  have q24_ := congrArg Int32.toInt (gS21_ 48 (by decide))
  have q25_ := congrArg Int32.toInt (gS21_ 49 (by decide))
  have q26_ := congrArg Int32.toInt (gS21_ 50 (by decide))
  have q27_ := congrArg Int32.toInt (gS21_ 51 (by decide))
  have q28_ := congrArg Int32.toInt (gS21_ 52 (by decide))
  have q29_ := congrArg Int32.toInt vS21_
  have L30_ : (48 : Int32).toInt = 48 := rfl
  refine n_cW FS21_ (nM_field  mS21_ (by first | omega | assumption) (by first | omega | assumption)) (by first | decide | (intro k q; exact hE k (by revert q; revert k; decide))) (fun x431_ S32_ mS32_ FS32_ fS32_ qx431_ => ?_)
  have q33_ := congrArg Int32.toInt (fS32_.1 46 (by decide))
  have q34_ := congrArg Int32.toInt (fS32_.1 48 (by decide))
  have q35_ := congrArg Int32.toInt (fS32_.1 49 (by decide))
  have q36_ := congrArg Int32.toInt (fS32_.1 50 (by decide))
  have q37_ := congrArg Int32.toInt (fS32_.1 51 (by decide))
  have q38_ := congrArg Int32.toInt (fS32_.1 52 (by decide))
  have r39_ := mi_f mS32_ 44 rfl
  have r40_ := mi_f mS32_ 45 rfl
  refine n_let ?_
  refine n_eq (fun c41_ => ?_) (fun c41_ => ?_)
  · skip
    refine n_eq (fun c42_ => ?_) (fun c42_ => ?_)
    · skip
      refine n_let ?_
      exact n_WW FS32_ (nM_readAll_44  mS32_ (by first | omega | assumption) (by first | omega | assumption) (by first | omega | assumption) (by first | omega | assumption) (by first | omega | assumption) (by first | omega | assumption)) (by first | decide | (intro k q; exact hE k (by revert q; revert k; decide))) (fun _ _ _ f q => by first | exact q | trivial | omega)
    · skip
      exact n_WW FS32_ (nM_readAll_44  mS32_ (by first | omega | assumption) (by first | omega | assumption) (by first | omega | assumption) (by first | omega | assumption) (by first | omega | assumption) (by first | omega | assumption)) (by first | decide | (intro k q; exact hE k (by revert q; revert k; decide))) (fun _ _ _ f q => by first | exact q | trivial | omega)
  · skip
    refine n_let ?_
    exact n_WW FS32_ (nM_readAll_44  mS32_ (by first | omega | assumption) (by first | omega | assumption) (by first | omega | assumption) (by first | omega | assumption) (by first | omega | assumption) (by first | omega | assumption)) (by first | decide | (intro k q; exact hE k (by revert q; revert k; decide))) (fun _ _ _ f q => by first | exact q | trivial | omega)

-- gM_inView_12
set_option maxHeartbeats 4000000 in
theorem nM_inView_12 {L_a1 : Nat} : ∀ (n : Nat) (a1 : Nat) (a2 : Int32) (a3 : Int32) (a4 : Int32) (a5 : Int32) (S : MS), MI S → rowL a1 1 L_a1 → 0 ≤ a2.toInt → a2.toInt ≤ 30000 → 0 ≤ a3.toInt → a3.toInt ≤ 1200 → a2.toInt + a3.toInt ≤ (L_a1 : Int) → 0 ≤ (S.1 49).toInt → -1 ≤ a4.toInt → a4.toInt ≤ 63 → 0 ≤ a5.toInt → a5.toInt ≤ 64 → 64 - a5.toInt < (n : Int) → nJ (NP S (fun r : Int32 => r.toInt = 0 ∨ r.toInt = 1)) (gM_inView_12 n a1 a2 a3 a4 a5 S) := by
  intro n
  induction n with
  | zero => intro a1 a2 a3 a4 a5 S mS hr_a1 p0_ p1_ p2_ p3_ p4_ p5_ p6_ p7_ p8_ p9_ m_; exfalso; omega
  | succ n ih =>
    intro a1 a2 a3 a4 a5 S mS hr_a1 p0_ p1_ p2_ p3_ p4_ p5_ p6_ p7_ p8_ p9_ m_
    unfold gM_inView_12
    have L1_ : (0 : Int32).toInt = 0 := rfl
    have L2_ : (1 : Int32).toInt = 1 := rfl
    have r3_ := mi_f mS 49 rfl
    refine n_let ?_
    refine n_let ?_
    refine n_rI (L := 8) mS (by decide) rfl (by omega) (by omega) (fun x34_ x34_e x34_l x34_u => ?_)
    have L5_ : (8 : Int32).toInt = 8 := rfl
    try have i6_ : ((8 : Int32) * (S.1 49)).toInt = 8 * (S.1 49).toInt := i_mul (n := 8) rfl (by omega) (by omega)
    try have i7_ : (((8 : Int32) * (S.1 49)) + x34_).toInt = ((8 : Int32) * (S.1 49)).toInt + x34_.toInt := i_add (by omega) (by omega)
    refine n_le (fun c8_ => ?_) (fun c8_ => ?_)
    · skip
      refine n_lt (fun c9_ => ?_) (fun c9_ => ?_)
      · skip
        exact n_rP (by omega)
      · skip
        refine n_rI (L := 64) mS (by decide) rfl (by omega) (by omega) (fun x410_ x410_e x410_l x410_u => ?_)
        refine n_eq (fun c11_ => ?_) (fun c11_ => ?_)
        · skip
          exact n_rP (by omega)
        · skip
          exact n_rP (by omega)
    · skip
      refine n_rI (L := 64) mS (by decide) rfl (by omega) (by omega) (fun x512_ x512_e x512_l x512_u => ?_)
      have L13_ : (16 : Int32).toInt = 16 := rfl
      try have i14_ : ((16 : Int32) * a5).toInt = 16 * a5.toInt := i_mul (n := 16) rfl (by omega) (by omega)
      refine n_cP (nM_begins (L_a0 := L_a1) (L_a3 := 1024) mS hr_a1 (by decide) (by first | omega | assumption) (by first | omega | assumption) (by first | omega | assumption) (by first | omega | assumption) (by first | omega | assumption) (by first | omega | assumption) (by first | omega | assumption)) (fun x615_ qx615_ => ?_)
      refine n_eq (fun c16_ => ?_) (fun c16_ => ?_)
      · skip
        try have i18_ : (a5 + (1 : Int32)).toInt = a5.toInt + (1 : Int32).toInt := i_add (by omega) (by omega)
        refine n_letv (fun x817_ x817_v => ?_)
        have x817_t := congrArg Int32.toInt x817_v
        exact ih _ _ _ _ _ _ mS hr_a1 (by first | omega | assumption) (by first | omega | assumption) (by first | omega | assumption) (by first | omega | assumption) (by first | omega | assumption) (by first | omega | assumption) (by first | omega | assumption) (by first | omega | assumption) (by first | omega | assumption) (by first | omega | assumption) (by omega)
      · skip
        refine n_lt (fun c19_ => ?_) (fun c19_ => ?_)
        · skip
          try have i21_ : (a5 + (1 : Int32)).toInt = a5.toInt + (1 : Int32).toInt := i_add (by omega) (by omega)
          refine n_letv (fun x920_ x920_v => ?_)
          have x920_t := congrArg Int32.toInt x920_v
          exact ih _ _ _ _ _ _ mS hr_a1 (by first | omega | assumption) (by first | omega | assumption) (by first | omega | assumption) (by first | omega | assumption) (by first | omega | assumption) (by first | omega | assumption) (by first | omega | assumption) (by first | omega | assumption) (by first | omega | assumption) (by first | omega | assumption) (by omega)
        · skip
          refine n_rI (L := 64) mS (by decide) rfl (by omega) (by omega) (fun x1022_ x1022_e x1022_l x1022_u => ?_)
          have q23_ : x1022_.toInt = x512_.toInt := by rw [x1022_e, x512_e]
          refine n_rI (L := 64) mS (by decide) rfl (by omega) (by omega) (fun x1124_ x1124_e x1124_l x1124_u => ?_)
          refine n_lt (fun c25_ => ?_) (fun c25_ => ?_)
          · skip
            try have i27_ : (a5 + (1 : Int32)).toInt = a5.toInt + (1 : Int32).toInt := i_add (by omega) (by omega)
            refine n_letv (fun x1226_ x1226_v => ?_)
            have x1226_t := congrArg Int32.toInt x1226_v
            exact ih _ _ _ _ _ _ mS hr_a1 (by first | omega | assumption) (by first | omega | assumption) (by first | omega | assumption) (by first | omega | assumption) (by first | omega | assumption) (by first | omega | assumption) (by first | omega | assumption) (by first | omega | assumption) (by first | omega | assumption) (by first | omega | assumption) (by omega)
          · skip
            try have i29_ : (a5 + (1 : Int32)).toInt = a5.toInt + (1 : Int32).toInt := i_add (by omega) (by omega)
            refine n_letv (fun x1328_ x1328_v => ?_)
            have x1328_t := congrArg Int32.toInt x1328_v
            exact ih _ _ _ _ _ _ mS hr_a1 (by first | omega | assumption) (by first | omega | assumption) (by first | omega | assumption) (by first | omega | assumption) (by first | omega | assumption) (by first | omega | assumption) (by first | omega | assumption) (by first | omega | assumption) (by first | omega | assumption) (by first | omega | assumption) (by omega)
