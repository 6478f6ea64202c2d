-- gM_readAll_341
set_option maxHeartbeats 4000000 in
theorem nM_readAll_341 {a1 : Int32} {a2 : Int32} {a4 : Int32} {s0 : Int32} {S : MS} (mS : MI S)  (p0_ : 0 ≤ a1.toInt) (p1_ : a1.toInt ≤ 1200) (p2_ : 0 ≤ a2.toInt) (p3_ : a2.toInt ≤ 1200) (p4_ : 0 ≤ a4.toInt) (p5_ : a4.toInt ≤ 1200) (p6_ : 0 ≤ (S.1 49).toInt) (p7_ : (S.1 51).toInt ≤ 40) (p8_ : (S.1 50).toInt + (S.1 51).toInt ≤ 1200) : nJ (NW [36, 37, 38, 39, 40, 41, 42, 43, 44, 45, 46, 54, 55, 58] S (fun (r : Unit) (S' : MS) => (S'.1 45).toInt ≠ 0 ∨ (0 ≤ (S'.1 49).toInt ∧ (S'.1 51).toInt ≤ 40 ∧ (S'.1 50).toInt + (S'.1 51).toInt ≤ 1200))) (gM_readAll_341 a1 a2 a4 s0 S) := by
  unfold gM_readAll_341
  have FS := fM_rf [36, 37, 38, 39, 40, 41, 42, 43, 44, 45, 46, 54, 55, 58] S
  have L1_ : (0 : Int32).toInt = 0 := rfl
  have L2_ : (1 : Int32).toInt = 1 := rfl
  refine n_sI mS FS (by first | decide | exact hE _ (by decide) | simp) rfl (i_lo _) (i_hi _) (fun S3_ mS3_ FS3_ vS3_ gS3_ hS3_ => ?_)
  have q4_ := congrArg Int32.toInt (gS3_ 44 (by decide))
  have q5_ := congrArg Int32.toInt (gS3_ 45 (by decide))
  have q6_ := congrArg Int32.toInt (gS3_ 46 (by decide))
  have q7_ := congrArg Int32.toInt (gS3_ 49 (by decide))
  have q8_ := congrArg Int32.toInt (gS3_ 50 (by decide))
  have q9_ := congrArg Int32.toInt (gS3_ 51 (by decide))
  have r10_ := mi_f mS3_ 45 rfl
  refine n_let ?_
  refine n_eq (fun c11_ => ?_) (fun c11_ => ?_)
  · skip
    refine n_cW FS3_ (nM_integer  mS3_ (by first | omega | assumption) (by first | omega | assumption)) (by first | decide | (intro k q; exact hE k (by revert q; revert k; decide))) (fun x312_ S13_ mS13_ FS13_ fS13_ qx312_ => ?_)
    have q14_ := congrArg Int32.toInt (fS13_.1 46 (by decide))
    have q15_ := congrArg Int32.toInt (fS13_.1 49 (by decide))
    have q16_ := congrArg Int32.toInt (fS13_.1 50 (by decide))
    have q17_ := congrArg Int32.toInt (fS13_.1 51 (by decide))
    have r18_ := mi_f mS13_ 49 rfl
    have r19_ := mi_f mS13_ 51 rfl
    have r20_ := mi_f mS13_ 50 rfl
    exact n_WW FS13_ (nM_readAll_362  mS13_ (by first | omega | assumption) (by first | omega | assumption) (by first | omega | assumption) (by first | omega | assumption) (by first | omega | assumption) (by first | omega | assumption) (by first | omega | assumption) (by first | omega | assumption) (by first | omega | assumption)) (by first | decide | (intro k q; exact hE k (by revert q; revert k; decide))) (fun _ _ _ f q => by first | exact q | trivial | omega)
  · skip
    have r21_ := mi_f mS3_ 49 rfl
    have r22_ := mi_f mS3_ 51 rfl
    have r23_ := mi_f mS3_ 50 rfl
    exact n_WW FS3_ (nM_readAll_362  mS3_ (by first | omega | assumption) (by first | omega | assumption) (by first | omega | assumption) (by first | omega | assumption) (by first | omega | assumption) (by first | omega | assumption) (by first | omega | assumption) (by first | omega | assumption) (by first | omega | assumption)) (by first | decide | (intro k q; exact hE k (by revert q; revert k; decide))) (fun _ _ _ f q => by first | exact q | trivial | omega)

-- gM_readAll_320
set_option maxHeartbeats 4000000 in
theorem nM_readAll_320 {a1 : Int32} {a2 : Int32} {a4 : Int32} {s0 : Int32} {S : MS} (mS : MI S)  (p0_ : 0 ≤ a1.toInt) (p1_ : a1.toInt ≤ 1200) (p2_ : 0 ≤ a2.toInt) (p3_ : a2.toInt ≤ 1200) (p4_ : 0 ≤ a4.toInt) (p5_ : a4.toInt ≤ 1200) (p6_ : 0 ≤ (S.1 49).toInt) (p7_ : (S.1 51).toInt ≤ 40) (p8_ : (S.1 50).toInt + (S.1 51).toInt ≤ 1200) : nJ (NW [36, 37, 38, 39, 40, 41, 42, 43, 44, 45, 46, 53, 54, 55, 58] S (fun (r : Unit) (S' : MS) => (S'.1 45).toInt ≠ 0 ∨ (0 ≤ (S'.1 49).toInt ∧ (S'.1 51).toInt ≤ 40 ∧ (S'.1 50).toInt + (S'.1 51).toInt ≤ 1200))) (gM_readAll_320 a1 a2 a4 s0 S) := by
  unfold gM_readAll_320
  have FS := fM_rf [36, 37, 38, 39, 40, 41, 42, 43, 44, 45, 46, 53, 54, 55, 58] S
  have L1_ : (0 : Int32).toInt = 0 := rfl
  have L2_ : (1 : Int32).toInt = 1 := rfl
  refine n_sI mS FS (by first | decide | exact hE _ (by decide) | simp) rfl (i_lo _) (i_hi _) (fun S3_ mS3_ FS3_ vS3_ gS3_ hS3_ => ?_)
  have q4_ := congrArg Int32.toInt (gS3_ 44 (by decide))
  have q5_ := congrArg Int32.toInt (gS3_ 45 (by decide))
  have q6_ := congrArg Int32.toInt (gS3_ 46 (by decide))
  have q7_ := congrArg Int32.toInt (gS3_ 49 (by decide))
  have q8_ := congrArg Int32.toInt (gS3_ 50 (by decide))
  have q9_ := congrArg Int32.toInt (gS3_ 51 (by decide))
  have r10_ := mi_f mS3_ 45 rfl
  refine n_let ?_
  refine n_eq (fun c11_ => ?_) (fun c11_ => ?_)
  · skip
    refine n_cW FS3_ (nM_integer  mS3_ (by first | omega | assumption) (by first | omega | assumption)) (by first | decide | (intro k q; exact hE k (by revert q; revert k; decide))) (fun x312_ S13_ mS13_ FS13_ fS13_ qx312_ => ?_)
    have q14_ := congrArg Int32.toInt (fS13_.1 46 (by decide))
    have q15_ := congrArg Int32.toInt (fS13_.1 49 (by decide))
    have q16_ := congrArg Int32.toInt (fS13_.1 50 (by decide))
    have q17_ := congrArg Int32.toInt (fS13_.1 51 (by decide))
    have r18_ := mi_f mS13_ 49 rfl
    have r19_ := mi_f mS13_ 51 rfl
    have r20_ := mi_f mS13_ 50 rfl
    exact n_WW FS13_ (nM_readAll_341  mS13_ (by first | omega | assumption) (by first | omega | assumption) (by first | omega | assumption) (by first | omega | assumption) (by first | omega | assumption) (by first | omega | assumption) (by first | omega | assumption) (by first | omega | assumption) (by first | omega | assumption)) (by first | decide | (intro k q; exact hE k (by revert q; revert k; decide))) (fun _ _ _ f q => by first | exact q | trivial | omega)
  · skip
    have r21_ := mi_f mS3_ 49 rfl
    have r22_ := mi_f mS3_ 51 rfl
    have r23_ := mi_f mS3_ 50 rfl
    exact n_WW FS3_ (nM_readAll_341  mS3_ (by first | omega | assumption) (by first | omega | assumption) (by first | omega | assumption) (by first | omega | assumption) (by first | omega | assumption) (by first | omega | assumption) (by first | omega | assumption) (by first | omega | assumption) (by first | omega | assumption)) (by first | decide | (intro k q; exact hE k (by revert q; revert k; decide))) (fun _ _ _ f q => by first | exact q | trivial | omega)

-- gM_readAll_299
set_option maxHeartbeats 4000000 in
theorem nM_readAll_299 {a1 : Int32} {a2 : Int32} {a4 : Int32} {s0 : Int32} {S : MS} (mS : MI S)  (p0_ : 0 ≤ a1.toInt) (p1_ : a1.toInt ≤ 1200) (p2_ : 0 ≤ a2.toInt) (p3_ : a2.toInt ≤ 1200) (p4_ : 0 ≤ a4.toInt) (p5_ : a4.toInt ≤ 1200) (p6_ : 0 ≤ s0.toInt) (p7_ : s0.toInt ≤ 3) (p8_ : 0 ≤ (S.1 49).toInt) (p9_ : (S.1 51).toInt ≤ 40) (p10_ : (S.1 50).toInt + (S.1 51).toInt ≤ 1200) : nJ (NW [36, 37, 38, 39, 40, 41, 42, 43, 44, 45, 46, 53, 54, 55, 58] S (fun (r : Unit) (S' : MS) => (S'.1 45).toInt ≠ 0 ∨ (0 ≤ (S'.1 49).toInt ∧ (S'.1 51).toInt ≤ 40 ∧ (S'.1 50).toInt + (S'.1 51).toInt ≤ 1200))) (gM_readAll_299 a1 a2 a4 s0 S) := by
  unfold gM_readAll_299
  have FS := fM_rf [36, 37, 38, 39, 40, 41, 42, 43, 44, 45, 46, 53, 54, 55, 58] S
  have L1_ : (0 : Int32).toInt = 0 := rfl
  have L2_ : (1 : Int32).toInt = 1 := rfl
  refine n_sI mS FS (by first | decide | exact hE _ (by decide) | simp) rfl (by omega) (by omega) (fun S3_ mS3_ FS3_ vS3_ gS3_ hS3_ => ?_)
  have q4_ := congrArg Int32.toInt (gS3_ 44 (by decide))
  have q5_ := congrArg Int32.toInt (gS3_ 46 (by decide))
  have q6_ := congrArg Int32.toInt (gS3_ 49 (by decide))
  have q7_ := congrArg Int32.toInt (gS3_ 50 (by decide))
  have q8_ := congrArg Int32.toInt (gS3_ 51 (by decide))
  have q9_ := congrArg Int32.toInt vS3_
  have r10_ := mi_f mS3_ 45 rfl
  refine n_let ?_
  refine n_eq (fun c11_ => ?_) (fun c11_ => ?_)
  · skip
    refine n_cW FS3_ (nM_integer  mS3_ (by first | omega | assumption) (by first | omega | assumption)) (by first | decide | (intro k q; exact hE k (by revert q; revert k; decide))) (fun x312_ S13_ mS13_ FS13_ fS13_ qx312_ => ?_)
    have q14_ := congrArg Int32.toInt (fS13_.1 46 (by decide))
    have q15_ := congrArg Int32.toInt (fS13_.1 49 (by decide))
    have q16_ := congrArg Int32.toInt (fS13_.1 50 (by decide))
    have q17_ := congrArg Int32.toInt (fS13_.1 51 (by decide))
    have r18_ := mi_f mS13_ 49 rfl
    have r19_ := mi_f mS13_ 51 rfl
    have r20_ := mi_f mS13_ 50 rfl
    exact n_WW FS13_ (nM_readAll_320  mS13_ (by first | omega | assumption) (by first | omega | assumption) (by first | omega | assumption) (by first | omega | assumption) (by first | omega | assumption) (by first | omega | assumption) (by first | omega | assumption) (by first | omega | assumption) (by first | omega | assumption)) (by first | decide | (intro k q; exact hE k (by revert q; revert k; decide))) (fun _ _ _ f q => by first | exact q | trivial | omega)
  · skip
    have r21_ := mi_f mS3_ 49 rfl
    have r22_ := mi_f mS3_ 51 rfl
    have r23_ := mi_f mS3_ 50 rfl
    exact n_WW FS3_ (nM_readAll_320  mS3_ (by first | omega | assumption) (by first | omega | assumption) (by first | omega | assumption) (by first | omega | assumption) (by first | omega | assumption) (by first | omega | assumption) (by first | omega | assumption) (by first | omega | assumption) (by first | omega | assumption)) (by first | decide | (intro k q; exact hE k (by revert q; revert k; decide))) (fun _ _ _ f q => by first | exact q | trivial | omega)

-- gM_readAll_275
set_option maxHeartbeats 4000000 in
theorem nM_readAll_275 {a1 : Int32} {a2 : Int32} {s0 : Int32} {S : MS} (mS : MI S)  (p0_ : 0 ≤ a1.toInt) (p1_ : a1.toInt ≤ 1200) (p2_ : 0 ≤ a2.toInt) (p3_ : a2.toInt ≤ 1200) (p4_ : 0 ≤ s0.toInt) (p5_ : s0.toInt ≤ 1200) (p6_ : 0 ≤ (S.1 49).toInt) (p7_ : (S.1 51).toInt ≤ 40) (p8_ : (S.1 50).toInt + (S.1 51).toInt ≤ 1200) : nJ (NW [36, 37, 38, 39, 40, 41, 42, 43, 44, 45, 46, 53, 54, 55, 58] S (fun (r : Unit) (S' : MS) => (S'.1 45).toInt ≠ 0 ∨ (0 ≤ (S'.1 49).toInt ∧ (S'.1 51).toInt ≤ 40 ∧ (S'.1 50).toInt + (S'.1 51).toInt ≤ 1200))) (gM_readAll_275 a1 a2 s0 S) := by
  unfold gM_readAll_275
  have FS := fM_rf [36, 37, 38, 39, 40, 41, 42, 43, 44, 45, 46, 53, 54, 55, 58] S
  have L1_ : (0 : Int32).toInt = 0 := rfl
  have L2_ : (1 : Int32).toInt = 1 := rfl
  have r3_ := mi_f mS 45 rfl
  refine n_let ?_
  refine n_eq (fun c4_ => ?_) (fun c4_ => ?_)
  · skip
    refine n_eq (fun c5_ => ?_) (fun c5_ => ?_)
    · skip
      refine n_let ?_
      have r6_ := mi_f mS 49 rfl
      have r7_ := mi_f mS 51 rfl
      have r8_ := mi_f mS 50 rfl
      exact n_WW FS (nM_readAll_299  mS (by first | omega | assumption) (by first | omega | assumption) (by first | omega | assumption) (by first | omega | assumption) (by first | omega | assumption) (by first | omega | assumption) (by first | omega | assumption) (by first | omega | assumption) (by first | omega | assumption) (by first | omega | assumption) (by first | omega | assumption)) (by first | decide | (intro k q; exact hE k (by revert q; revert k; decide))) (fun _ _ _ f q => by first | exact q | trivial | omega)
    · skip
      have r9_ := mi_f mS 49 rfl
      have r10_ := mi_f mS 51 rfl
      have r11_ := mi_f mS 50 rfl
      exact n_WW FS (nM_readAll_299  mS (by first | omega | assumption) (by first | omega | assumption) (by first | omega | assumption) (by first | omega | assumption) (by first | omega | assumption) (by first | omega | assumption) (by first | omega | assumption) (by first | omega | assumption) (by first | omega | assumption) (by first | omega | assumption) (by first | omega | assumption)) (by first | decide | (intro k q; exact hE k (by revert q; revert k; decide))) (fun _ _ _ f q => by first | exact q | trivial | omega)
  · skip
    refine n_let ?_
    have r12_ := mi_f mS 49 rfl
    have r13_ := mi_f mS 51 rfl
    have r14_ := mi_f mS 50 rfl
    exact n_WW FS (nM_readAll_299  mS (by first | omega | assumption) (by first | omega | assumption) (by first | omega | assumption) (by first | omega | assumption) (by first | omega | assumption) (by first | omega | assumption) (by first | omega | assumption) (by first | omega | assumption) (by first | omega | assumption) (by first | omega | assumption) (by first | omega | assumption)) (by first | decide | (intro k q; exact hE k (by revert q; revert k; decide))) (fun _ _ _ f q => by first | exact q | trivial | omega)

-- gM_readAll_256
set_option maxHeartbeats 4000000 in
theorem nM_readAll_256 {a1 : Int32} {a2 : Int32} {S : MS} (mS : MI S)  (p0_ : 0 ≤ a1.toInt) (p1_ : a1.toInt ≤ 1200) (p2_ : 0 ≤ a2.toInt) (p3_ : a2.toInt ≤ 1200) (p4_ : 0 ≤ (S.1 49).toInt) (p5_ : (S.1 51).toInt ≤ 40) (p6_ : (S.1 50).toInt + (S.1 51).toInt ≤ 1200) : nJ (NW [36, 37, 38, 39, 40, 41, 42, 43, 44, 45, 46, 53, 54, 55, 58] S (fun (r : Unit) (S' : MS) => (S'.1 45).toInt ≠ 0 ∨ (0 ≤ (S'.1 49).toInt ∧ (S'.1 51).toInt ≤ 40 ∧ (S'.1 50).toInt + (S'.1 51).toInt ≤ 1200))) (gM_readAll_256 a1 a2 S) := by
  unfold gM_readAll_256
  have FS := fM_rf [36, 37, 38, 39, 40, 41, 42, 43, 44, 45, 46, 53, 54, 55, 58] S
  have L1_ : (0 : Int32).toInt = 0 := rfl
  have L2_ : (1 : Int32).toInt = 1 := rfl
  have r3_ := mi_f mS 45 rfl
  refine n_let ?_
  refine n_eq (fun c4_ => ?_) (fun c4_ => ?_)
  · skip
    refine n_cW FS (nM_size  mS (by first | omega | assumption) (by first | omega | assumption)) (by first | decide | (intro k q; exact hE k (by revert q; revert k; decide))) (fun x35_ S6_ mS6_ FS6_ fS6_ qx35_ => ?_)
    have q7_ := congrArg Int32.toInt (fS6_.1 46 (by decide))
    have q8_ := congrArg Int32.toInt (fS6_.1 49 (by decide))
    have q9_ := congrArg Int32.toInt (fS6_.1 50 (by decide))
    have q10_ := congrArg Int32.toInt (fS6_.1 51 (by decide))
    have r11_ := mi_f mS6_ 44 rfl
    have r12_ := mi_f mS6_ 45 rfl
    have r13_ := mi_f mS6_ 49 rfl
    have r14_ := mi_f mS6_ 51 rfl
    have r15_ := mi_f mS6_ 50 rfl
    exact n_WW FS6_ (nM_readAll_275  mS6_ (by first | omega | assumption) (by first | omega | assumption) (by first | omega | assumption) (by first | omega | assumption) (by first | omega | assumption) (by first | omega | assumption) (by first | omega | assumption) (by first | omega | assumption) (by first | omega | assumption)) (by first | decide | (intro k q; exact hE k (by revert q; revert k; decide))) (fun _ _ _ f q => by first | exact q | trivial | omega)
  · skip
    have r16_ := mi_f mS 44 rfl
    refine n_let ?_
    have r17_ := mi_f mS 49 rfl
    have r18_ := mi_f mS 51 rfl
    have r19_ := mi_f mS 50 rfl
    exact n_WW FS (nM_readAll_275  mS (by first | omega | assumption) (by first | omega | assumption) (by first | omega | assumption) (by first | omega | assumption) (by first | omega | assumption) (by first | omega | assumption) (by first | omega | assumption) (by first | omega | assumption) (by first | omega | assumption)) (by first | decide | (intro k q; exact hE k (by revert q; revert k; decide))) (fun _ _ _ f q => by first | exact q | trivial | omega)

-- gM_readAll_141
set_option maxHeartbeats 4000000 in
theorem nM_readAll_141 {a1 : Int32} {a2 : Int32} {a3 : Int32} {S : MS} (mS : MI S)  (p0_ : 0 ≤ a1.toInt) (p1_ : a1.toInt ≤ 1200) (p2_ : 0 ≤ a2.toInt) (p3_ : a2.toInt ≤ 1200) (p4_ : 0 ≤ a3.toInt) (p5_ : a3.toInt ≤ 1200) (p6_ : (S.1 45).toInt ≠ 0 ∨ (S.1 51).toInt ≤ 40) (p7_ : (S.1 50).toInt + (S.1 51).toInt ≤ 1200) : nJ (NW [36, 37, 38, 39, 40, 41, 42, 43, 44, 45, 46, 49, 52, 53, 54, 55, 58] S (fun (r : Unit) (S' : MS) => (S'.1 45).toInt ≠ 0 ∨ (0 ≤ (S'.1 49).toInt ∧ (S'.1 51).toInt ≤ 40 ∧ (S'.1 50).toInt + (S'.1 51).toInt ≤ 1200))) (gM_readAll_141 a1 a2 a3 S) := by
  unfold gM_readAll_141
  have FS := fM_rf [36, 37, 38, 39, 40, 41, 42, 43, 44, 45, 46, 49, 52, 53, 54, 55, 58] S
  have L1_ : (0 : Int32).toInt = 0 := rfl
  have L2_ : (1 : Int32).toInt = 1 := rfl
  have r3_ := mi_f mS 45 rfl
  refine n_let ?_
  refine n_eq (fun c4_ => ?_) (fun c4_ => ?_)
  · skip
    refine n_sI mS FS (by first | decide | exact hE _ (by decide) | simp) rfl (by omega) (by omega) (fun S5_ mS5_ FS5_ vS5_ gS5_ hS5_ => ?_)
    have q6_ := congrArg Int32.toInt (gS5_ 45 (by decide))
    have q7_ := congrArg Int32.toInt (gS5_ 46 (by decide))
    have q8_ := congrArg Int32.toInt (gS5_ 48 (by decide))
    have q9_ := congrArg Int32.toInt (gS5_ 49 (by decide))
    have q10_ := congrArg Int32.toInt (gS5_ 50 (by decide))
    have q11_ := congrArg Int32.toInt (gS5_ 51 (by decide))
    have q12_ := congrArg Int32.toInt (gS5_ 52 (by decide))
    have q13_ := congrArg Int32.toInt vS5_
    have r14_ := mi_f mS5_ 50 rfl
    refine n_let ?_
    have r15_ := mi_f mS5_ 51 rfl
    refine n_let ?_
    refine n_cP (nM_communityOf (L_a1 := 1200) mS5_ (by decide) (by first | omega | assumption) (by first | omega | assumption) (by first | omega | assumption) (by first | omega | assumption) (by first | omega | assumption)) (fun x516_ qx516_ => ?_)
    refine n_sI mS5_ FS5_ (by first | decide | exact hE _ (by decide) | simp) rfl (by omega) (by omega) (fun S17_ mS17_ FS17_ vS17_ gS17_ hS17_ => ?_)
    have q18_ := congrArg Int32.toInt (gS17_ 44 (by decide))
    have q19_ := congrArg Int32.toInt (gS17_ 45 (by decide))
    have q20_ := congrArg Int32.toInt (gS17_ 46 (by decide))
    have q21_ := congrArg Int32.toInt (gS17_ 48 (by decide))
    have q22_ := congrArg Int32.toInt (gS17_ 50 (by decide))
    have q23_ := congrArg Int32.toInt (gS17_ 51 (by decide))
    have q24_ := congrArg Int32.toInt (gS17_ 52 (by decide))
    have q25_ := congrArg Int32.toInt vS17_
    have r26_ := mi_f mS17_ 49 rfl
    refine n_let ?_
    refine n_le (fun c27_ => ?_) (fun c27_ => ?_)
    · skip
      refine n_cW FS17_ (nM_octet  mS17_ (by first | omega | assumption) (by first | omega | assumption)) (by first | decide | (intro k q; exact hE k (by revert q; revert k; decide))) (fun x928_ S29_ mS29_ FS29_ fS29_ qx928_ => ?_)
      have q30_ := congrArg Int32.toInt (fS29_.1 46 (by decide))
      have q31_ := congrArg Int32.toInt (fS29_.1 48 (by decide))
      have q32_ := congrArg Int32.toInt (fS29_.1 49 (by decide))
      have q33_ := congrArg Int32.toInt (fS29_.1 50 (by decide))
      have q34_ := congrArg Int32.toInt (fS29_.1 51 (by decide))
      have q35_ := congrArg Int32.toInt (fS29_.1 52 (by decide))
      have r36_ := mi_f mS29_ 44 rfl
      have r37_ := mi_f mS29_ 45 rfl
      refine n_sI mS29_ FS29_ (by first | decide | exact hE _ (by decide) | simp) rfl (i_lo _) (i_hi _) (fun S38_ mS38_ FS38_ vS38_ gS38_ hS38_ => ?_)
      have q39_ := congrArg Int32.toInt (gS38_ 44 (by decide))
      have q40_ := congrArg Int32.toInt (gS38_ 45 (by decide))
      have q41_ := congrArg Int32.toInt (gS38_ 46 (by decide))
      have q42_ := congrArg Int32.toInt (gS38_ 48 (by decide))
      have q43_ := congrArg Int32.toInt (gS38_ 49 (by decide))
      have q44_ := congrArg Int32.toInt (gS38_ 50 (by decide))
      have q45_ := congrArg Int32.toInt (gS38_ 51 (by decide))
      have q46_ := congrArg Int32.toInt vS38_
      have r47_ := mi_f mS38_ 45 rfl
      refine n_let ?_
      refine n_eq (fun c48_ => ?_) (fun c48_ => ?_)
      · skip
        refine n_let ?_
        have L49_ : (160 : Int32).toInt = 160 := rfl
        refine n_eq (fun c50_ => ?_) (fun c50_ => ?_)
        · skip
          have r51_ := mi_f mS38_ 49 rfl
          have r52_ := mi_f mS38_ 51 rfl
          have r53_ := mi_f mS38_ 50 rfl
          exact n_WW FS38_ (nM_readAll_256  mS38_ (by first | omega | assumption) (by first | omega | assumption) (by first | omega | assumption) (by first | omega | assumption) (by first | omega | assumption) (by first | omega | assumption) (by first | omega | assumption)) (by first | decide | (intro k q; exact hE k (by revert q; revert k; decide))) (fun _ _ _ f q => by first | exact q | trivial | omega)
        · skip
          refine n_let ?_
          have L54_ : (161 : Int32).toInt = 161 := rfl
          refine n_eq (fun c55_ => ?_) (fun c55_ => ?_)
          · skip
            have r56_ := mi_f mS38_ 49 rfl
            have r57_ := mi_f mS38_ 51 rfl
            have r58_ := mi_f mS38_ 50 rfl
            exact n_WW FS38_ (nM_readAll_256  mS38_ (by first | omega | assumption) (by first | omega | assumption) (by first | omega | assumption) (by first | omega | assumption) (by first | omega | assumption) (by first | omega | assumption) (by first | omega | assumption)) (by first | decide | (intro k q; exact hE k (by revert q; revert k; decide))) (fun _ _ _ f q => by first | exact q | trivial | omega)
          · skip
            refine n_let ?_
            have L59_ : (163 : Int32).toInt = 163 := rfl
            refine n_eq (fun c60_ => ?_) (fun c60_ => ?_)
            · skip
              have r61_ := mi_f mS38_ 49 rfl
              have r62_ := mi_f mS38_ 51 rfl
              have r63_ := mi_f mS38_ 50 rfl
              exact n_WW FS38_ (nM_readAll_256  mS38_ (by first | omega | assumption) (by first | omega | assumption) (by first | omega | assumption) (by first | omega | assumption) (by first | omega | assumption) (by first | omega | assumption) (by first | omega | assumption)) (by first | decide | (intro k q; exact hE k (by revert q; revert k; decide))) (fun _ _ _ f q => by first | exact q | trivial | omega)
            · skip
              refine n_let ?_
              have L64_ : (165 : Int32).toInt = 165 := rfl
              refine n_eq (fun c65_ => ?_) (fun c65_ => ?_)
              · skip
                refine n_let ?_
                refine n_eq (fun c66_ => ?_) (fun c66_ => ?_)
                · skip
                  have r67_ := mi_f mS38_ 49 rfl
                  have r68_ := mi_f mS38_ 51 rfl
                  have r69_ := mi_f mS38_ 50 rfl
                  exact n_WW FS38_ (nM_readAll_256  mS38_ (by first | omega | assumption) (by first | omega | assumption) (by first | omega | assumption) (by first | omega | assumption) (by first | omega | assumption) (by first | omega | assumption) (by first | omega | assumption)) (by first | decide | (intro k q; exact hE k (by revert q; revert k; decide))) (fun _ _ _ f q => by first | exact q | trivial | omega)
                · skip
                  refine n_sI mS38_ FS38_ (by first | decide | exact hE _ (by decide) | simp) rfl (by omega) (by omega) (fun S70_ mS70_ FS70_ vS70_ gS70_ hS70_ => ?_)
                  have q71_ := congrArg Int32.toInt (gS70_ 44 (by decide))
                  have q72_ := congrArg Int32.toInt (gS70_ 46 (by decide))
                  have q73_ := congrArg Int32.toInt (gS70_ 49 (by decide))
                  have q74_ := congrArg Int32.toInt (gS70_ 50 (by decide))
                  have q75_ := congrArg Int32.toInt (gS70_ 51 (by decide))
                  have q76_ := congrArg Int32.toInt vS70_
                  have r77_ := mi_f mS70_ 49 rfl
                  have r78_ := mi_f mS70_ 51 rfl
                  have r79_ := mi_f mS70_ 50 rfl
                  exact n_WW FS70_ (nM_readAll_256  mS70_ (by first | omega | assumption) (by first | omega | assumption) (by first | omega | assumption) (by first | omega | assumption) (by first | omega | assumption) (by first | omega | assumption) (by first | omega | assumption)) (by first | decide | (intro k q; exact hE k (by revert q; revert k; decide))) (fun _ _ _ f q => by first | exact q | trivial | omega)
              · skip
                refine n_sI mS38_ FS38_ (by first | decide | exact hE _ (by decide) | simp) rfl (by omega) (by omega) (fun S80_ mS80_ FS80_ vS80_ gS80_ hS80_ => ?_)
                have q81_ := congrArg Int32.toInt (gS80_ 44 (by decide))
                have q82_ := congrArg Int32.toInt (gS80_ 46 (by decide))
                have q83_ := congrArg Int32.toInt (gS80_ 49 (by decide))
                have q84_ := congrArg Int32.toInt (gS80_ 50 (by decide))
                have q85_ := congrArg Int32.toInt (gS80_ 51 (by decide))
                have q86_ := congrArg Int32.toInt vS80_
                have r87_ := mi_f mS80_ 49 rfl
                have r88_ := mi_f mS80_ 51 rfl
                have r89_ := mi_f mS80_ 50 rfl
                exact n_WW FS80_ (nM_readAll_256  mS80_ (by first | omega | assumption) (by first | omega | assumption) (by first | omega | assumption) (by first | omega | assumption) (by first | omega | assumption) (by first | omega | assumption) (by first | omega | assumption)) (by first | decide | (intro k q; exact hE k (by revert q; revert k; decide))) (fun _ _ _ f q => by first | exact q | trivial | omega)
      · skip
        have r90_ := mi_f mS38_ 49 rfl
        have r91_ := mi_f mS38_ 51 rfl
        have r92_ := mi_f mS38_ 50 rfl
        exact n_WW FS38_ (nM_readAll_256  mS38_ (by first | omega | assumption) (by first | omega | assumption) (by first | omega | assumption) (by first | omega | assumption) (by first | omega | assumption) (by first | omega | assumption) (by first | omega | assumption)) (by first | decide | (intro k q; exact hE k (by revert q; revert k; decide))) (fun _ _ _ f q => by first | exact q | trivial | omega)
    · skip
      have L93_ : (3 : Int32).toInt = 3 := rfl
      refine n_sI mS17_ FS17_ (by first | decide | exact hE _ (by decide) | simp) rfl (by omega) (by omega) (fun S94_ mS94_ FS94_ vS94_ gS94_ hS94_ => ?_)
      have q95_ := congrArg Int32.toInt (gS94_ 49 (by decide))
      have q96_ := congrArg Int32.toInt (gS94_ 50 (by decide))
      have q97_ := congrArg Int32.toInt (gS94_ 51 (by decide))
      have q98_ := congrArg Int32.toInt vS94_
      have r99_ := mi_f mS94_ 49 rfl
      have r100_ := mi_f mS94_ 50 rfl
      have r101_ := mi_f mS94_ 51 rfl
      have r102_ := mi_f mS94_ 45 rfl
      exact n_rW mS94_ FS94_ (by omega)
  · skip
    have r103_ := mi_f mS 49 rfl
    have r104_ := mi_f mS 50 rfl
    have r105_ := mi_f mS 51 rfl
    exact n_rW mS FS (by omega)
