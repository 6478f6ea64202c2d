-- gM_scalar_87
set_option maxHeartbeats 4000000 in
theorem nM_scalar_87 {E : List Nat} {S0 : MS} (hE : ∀ k ∈ [10, 11, 12, 13, 14, 15, 16, 17, 19, 20, 21, 8, 9], k ∈ E) : ∀ (n : Nat) (a1 : Int32) (a2 : Int32) (a3 : Int64) (a5 : Int64) (a7 : Int32) (a8 : Int32) (S : MS), MI S → fM E S0 S → 0 ≤ a7.toInt → a7.toInt ≤ 15 → 0 ≤ a8.toInt → a8.toInt ≤ 16 → (S.1 8).toInt ≤ 39 → (S.1 4).toInt = 0 → 16 - a8.toInt < (n : Int) → nJ (NW E S0 (fun (r : Int32) (S' : MS) => (S'.1 4).toInt = 0)) (gM_scalar_87 n a1 a2 a3 a5 a7 a8 S) := by
  intro n
  induction n with
  | zero => intro a1 a2 a3 a5 a7 a8 S mS FS p0_ p1_ p2_ p3_ p4_ p5_ m_; exfalso; omega
  | succ n ih =>
    intro a1 a2 a3 a5 a7 a8 S mS FS p0_ p1_ p2_ p3_ p4_ p5_ m_
    unfold gM_scalar_87
    have L1_ : (0 : Int32).toInt = 0 := rfl
    have L2_ : (1 : Int32).toInt = 1 := rfl
    refine n_le (fun c3_ => ?_) (fun c3_ => ?_)
    · skip
      have r4_ := mi_f mS 8 rfl
      refine n_let ?_
      refine n_wI (L := 40) mS FS (by first | decide | exact hE _ (by decide) | simp) (by decide) (by decide) rfl (by omega) (by omega) (by omega) (by omega) (fun S5_ mS5_ FS5_ gS5_ hS5_ kS5_ => ?_)
      have q6_ := congrArg Int32.toInt (congrFun gS5_ 4)
      have q7_ := congrArg Int32.toInt (congrFun gS5_ 8)
      have L8_ : (-1 : Int32).toInt = -1 := rfl
      have r9_ := mi_f mS5_ 8 rfl
      refine n_cW FS5_ (nM_newObject  mS5_ (by first | omega | assumption) (by first | omega | assumption) (by first | omega | assumption) (by first | omega | assumption)) (by first | decide | (intro k q; exact hE k (by revert q; revert k; decide))) (fun x310_ S11_ mS11_ FS11_ fS11_ qx310_ => ?_)
      have q12_ := congrArg Int32.toInt (fS11_.1 4 (by decide))
      have r13_ := mi_f mS11_ 8 rfl
      have r14_ := mi_f mS11_ 4 rfl
      exact n_rW mS11_ FS11_ (by omega)
    · skip
      have r15_ := mi_f mS 8 rfl
      refine n_let ?_
      refine n_rJ (L := 16) (by decide) (by omega) (by omega) (fun x616_ x616_e => ?_)
      have L17_ : (16 : Int32).toInt = 16 := rfl
      try have i18_ : ((16 : Int32) * (S.1 8)).toInt = 16 * (S.1 8).toInt := i_mul (n := 16) rfl (by omega) (by omega)
      try have i19_ : (((16 : Int32) * (S.1 8)) + a8).toInt = ((16 : Int32) * (S.1 8)).toInt + a8.toInt := i_add (by omega) (by omega)
      refine n_wJ (L := 640) mS FS (by first | decide | exact hE _ (by decide) | simp) (by decide) (by omega) (by omega) (fun S20_ mS20_ FS20_ gS20_ hS20_ kS20_ => ?_)
      have q21_ := congrArg Int32.toInt (congrFun gS20_ 4)
      have q22_ := congrArg Int32.toInt (congrFun gS20_ 8)
      try have i24_ : (a8 + (1 : Int32)).toInt = a8.toInt + (1 : Int32).toInt := i_add (by omega) (by omega)
      refine n_letv (fun x823_ x823_v => ?_)
      have x823_t := congrArg Int32.toInt x823_v
      have r25_ := mi_f mS20_ 8 rfl
      have r26_ := mi_f mS20_ 4 rfl
      exact ih a1 a2 a3 a5 a7 x823_ S20_ mS20_ FS20_ (by first | omega | assumption) (by first | omega | assumption) (by first | omega | assumption) (by first | omega | assumption) (by first | omega | assumption) (by first | omega | assumption) (by omega)

-- gM_scalar
set_option maxHeartbeats 4000000 in
theorem nM_scalar {a1 : Int32} {a2 : Int32} {a3 : Int64} {a5 : Int64} {S : MS} (mS : MI S)  : nJ (NW [0, 10, 11, 12, 13, 14, 15, 16, 17, 19, 20, 21, 4, 8, 9] S (fun (r : Int32) (S' : MS) => (S'.1 4).toInt = 0)) (gM_scalar a1 a2 a3 a5 S) := by
  unfold gM_scalar
  have FS := fM_rf [0, 10, 11, 12, 13, 14, 15, 16, 17, 19, 20, 21, 4, 8, 9] S
  have L1_ : (0 : Int32).toInt = 0 := rfl
  have L2_ : (1 : Int32).toInt = 1 := rfl
  refine n_sI mS FS (by first | decide | exact hE _ (by decide) | simp) rfl (i_lo _) (i_hi _) (fun S3_ mS3_ FS3_ vS3_ gS3_ hS3_ => ?_)
  have q4_ := congrArg Int32.toInt (gS3_ 4 (by decide))
  have q5_ := congrArg Int32.toInt (gS3_ 8 (by decide))
  have r6_ := mi_f mS3_ 4 rfl
  refine n_let ?_
  refine n_sI mS3_ FS3_ (by first | decide | exact hE _ (by decide) | simp) rfl (by omega) (by omega) (fun S7_ mS7_ FS7_ vS7_ gS7_ hS7_ => ?_)
  have q8_ := congrArg Int32.toInt (gS7_ 8 (by decide))
  have q9_ := congrArg Int32.toInt vS7_
  refine n_cP (nM_isTag  mS7_ ) (fun x410_ qx410_ => ?_)
  refine n_eq (fun c11_ => ?_) (fun c11_ => ?_)
  · skip
    have L12_ : (-2 : Int32).toInt = -2 := rfl
    have r13_ := mi_f mS7_ 4 rfl
    exact n_rW mS7_ FS7_ (by omega)
  · skip
    have j14_ := Int32.toInt_toInt64 (a2)
    have L15_ : (0 : Int64).toInt = 0 := rfl
    have L16_ : (2 : Int64).toInt = 2 := rfl
    refine n_cP (nM_in  mS7_ ) (fun x617_ qx617_ => ?_)
    refine n_eq (fun c18_ => ?_) (fun c18_ => ?_)
    · skip
      have L19_ : (-2 : Int32).toInt = -2 := rfl
      have r20_ := mi_f mS7_ 4 rfl
      exact n_rW mS7_ FS7_ (by omega)
    · skip
      refine n_l3 (fun c21_ => ?_) (fun c21_ => ?_)
      · skip
        have L22_ : (-2 : Int32).toInt = -2 := rfl
        have r23_ := mi_f mS7_ 4 rfl
        exact n_rW mS7_ FS7_ (by omega)
      · skip
        have j24_ := Int32.toInt_toInt64 ((S3_.1 4))
        have L25_ : (15 : Int64).toInt = 15 := rfl
        refine n_cP (nM_in  mS7_ ) (fun x826_ qx826_ => ?_)
        refine n_eq (fun c27_ => ?_) (fun c27_ => ?_)
        · skip
          have L28_ : (-2 : Int32).toInt = -2 := rfl
          have r29_ := mi_f mS7_ 4 rfl
          exact n_rW mS7_ FS7_ (by omega)
        · skip
          refine n_cP (nM_clashes  mS7_ (by first | omega | assumption) (by first | omega | assumption)) (fun x1030_ qx1030_ => ?_)
          refine n_eq (fun c31_ => ?_) (fun c31_ => ?_)
          · skip
            have r32_ := mi_f mS7_ 8 rfl
            refine n_let ?_
            have L33_ : (40 : Int32).toInt = 40 := rfl
            refine n_eq (fun c34_ => ?_) (fun c34_ => ?_)
            · skip
              have L35_ : (-4 : Int32).toInt = -4 := rfl
              have r36_ := mi_f mS7_ 4 rfl
              exact n_rW mS7_ FS7_ (by omega)
            · skip
              have r37_ := mi_f mS7_ 4 rfl
              exact nM_scalar_87  (by first | decide | (intro k q; exact hE k (by revert q; revert k; decide))) _ _ _ _ _ _ _ _ mS7_ FS7_ (by first | omega | assumption) (by first | omega | assumption) (by first | omega | assumption) (by first | omega | assumption) (by first | omega | assumption) (by first | omega | assumption) (by simp only [sm_fuel_eq]; omega)
          · skip
            have L38_ : (-3 : Int32).toInt = -3 := rfl
            have r39_ := mi_f mS7_ 4 rfl
            exact n_rW mS7_ FS7_ (by omega)

-- gM_table_56
set_option maxHeartbeats 4000000 in
theorem nM_table_56 {E : List Nat} {S0 : MS} (hE : ∀ k ∈ [22, 23, 24], k ∈ E) : ∀ (n : Nat) (a1 : Int32) (a2 : Int32) (S : MS), MI S → fM E S0 S → 0 ≤ a1.toInt → a1.toInt ≤ 14 → 0 ≤ a2.toInt → a2.toInt ≤ 16 → (S.1 22).toInt ≤ 3 → (S.1 4).toInt = 0 → 16 - a2.toInt < (n : Int) → nJ (NW E S0 (fun (r : Int32) (S' : MS) => (S'.1 4).toInt = 0)) (gM_table_56 n a1 a2 S) := by
  intro n
  induction n with
  | zero => intro a1 a2 S mS FS p0_ p1_ p2_ p3_ p4_ p5_ m_; exfalso; omega
  | succ n ih =>
    intro a1 a2 S mS FS p0_ p1_ p2_ p3_ p4_ p5_ m_
    unfold gM_table_56
    have L1_ : (0 : Int32).toInt = 0 := rfl
    have L2_ : (1 : Int32).toInt = 1 := rfl
    refine n_le (fun c3_ => ?_) (fun c3_ => ?_)
    · skip
      have r4_ := mi_f mS 22 rfl
      refine n_let ?_
      refine n_wI (L := 4) mS FS (by first | decide | exact hE _ (by decide) | simp) (by decide) (by decide) rfl (by omega) (by omega) (by omega) (by omega) (fun S5_ mS5_ FS5_ gS5_ hS5_ kS5_ => ?_)
      have q6_ := congrArg Int32.toInt (congrFun gS5_ 4)
      have q7_ := congrArg Int32.toInt (congrFun gS5_ 22)
      have r8_ := mi_f mS5_ 22 rfl
      refine n_let ?_
      try have i9_ : ((S5_.1 22) + (1 : Int32)).toInt = (S5_.1 22).toInt + (1 : Int32).toInt := i_add (by omega) (by omega)
      refine n_sI mS5_ FS5_ (by first | decide | exact hE _ (by decide) | simp) rfl (by omega) (by omega) (fun S10_ mS10_ FS10_ vS10_ gS10_ hS10_ => ?_)
      have q11_ := congrArg Int32.toInt (gS10_ 4 (by decide))
      have q12_ := congrArg Int32.toInt vS10_
      have r13_ := mi_f mS10_ 22 rfl
      refine n_let ?_
      try have i14_ : ((S10_.1 22) - (1 : Int32)).toInt = (S10_.1 22).toInt - (1 : Int32).toInt := i_sub (by omega) (by omega)
      have r15_ := mi_f mS10_ 4 rfl
      exact n_rW mS10_ FS10_ (by omega)
    · skip
      have r16_ := mi_f mS 22 rfl
      refine n_let ?_
      refine n_rJ (L := 16) (by decide) (by omega) (by omega) (fun x717_ x717_e => ?_)
      have L18_ : (16 : Int32).toInt = 16 := rfl
      try have i19_ : ((16 : Int32) * (S.1 22)).toInt = 16 * (S.1 22).toInt := i_mul (n := 16) rfl (by omega) (by omega)
      try have i20_ : (((16 : Int32) * (S.1 22)) + a2).toInt = ((16 : Int32) * (S.1 22)).toInt + a2.toInt := i_add (by omega) (by omega)
      refine n_wJ (L := 64) mS FS (by first | decide | exact hE _ (by decide) | simp) (by decide) (by omega) (by omega) (fun S21_ mS21_ FS21_ gS21_ hS21_ kS21_ => ?_)
      have q22_ := congrArg Int32.toInt (congrFun gS21_ 4)
      have q23_ := congrArg Int32.toInt (congrFun gS21_ 22)
      try have i25_ : (a2 + (1 : Int32)).toInt = a2.toInt + (1 : Int32).toInt := i_add (by omega) (by omega)
      refine n_letv (fun x924_ x924_v => ?_)
      have x924_t := congrArg Int32.toInt x924_v
      have r26_ := mi_f mS21_ 22 rfl
      have r27_ := mi_f mS21_ 4 rfl
      exact ih a1 x924_ S21_ mS21_ FS21_ (by first | omega | assumption) (by first | omega | assumption) (by first | omega | assumption) (by first | omega | assumption) (by first | omega | assumption) (by first | omega | assumption) (by omega)

-- gM_table
set_option maxHeartbeats 4000000 in
theorem nM_table  {S : MS} (mS : MI S)  : nJ (NW [0, 22, 23, 24, 4] S (fun (r : Int32) (S' : MS) => (S'.1 4).toInt = 0)) (gM_table  S) := by
  unfold gM_table
  have FS := fM_rf [0, 22, 23, 24, 4] S
  have L1_ : (0 : Int32).toInt = 0 := rfl
  have L2_ : (1 : Int32).toInt = 1 := rfl
  refine n_sI mS FS (by first | decide | exact hE _ (by decide) | simp) rfl (i_lo _) (i_hi _) (fun S3_ mS3_ FS3_ vS3_ gS3_ hS3_ => ?_)
  have q4_ := congrArg Int32.toInt (gS3_ 4 (by decide))
  have q5_ := congrArg Int32.toInt (gS3_ 22 (by decide))
  have r6_ := mi_f mS3_ 4 rfl
  refine n_let ?_
  refine n_sI mS3_ FS3_ (by first | decide | exact hE _ (by decide) | simp) rfl (by omega) (by omega) (fun S7_ mS7_ FS7_ vS7_ gS7_ hS7_ => ?_)
  have q8_ := congrArg Int32.toInt (gS7_ 22 (by decide))
  have q9_ := congrArg Int32.toInt vS7_
  have j10_ := Int32.toInt_toInt64 ((S3_.1 4))
  have L11_ : (2 : Int64).toInt = 2 := rfl
  have L12_ : (14 : Int64).toInt = 14 := rfl
  refine n_cP (nM_in  mS7_ ) (fun x413_ qx413_ => ?_)
  refine n_eq (fun c14_ => ?_) (fun c14_ => ?_)
  · skip
    have L15_ : (-2 : Int32).toInt = -2 := rfl
    have r16_ := mi_f mS7_ 4 rfl
    exact n_rW mS7_ FS7_ (by omega)
  · skip
    refine n_cP (nM_clashes  mS7_ (by first | omega | assumption) (by first | omega | assumption)) (fun x617_ qx617_ => ?_)
    refine n_eq (fun c18_ => ?_) (fun c18_ => ?_)
    · skip
      have r19_ := mi_f mS7_ 22 rfl
      refine n_let ?_
      have L20_ : (4 : Int32).toInt = 4 := rfl
      refine n_eq (fun c21_ => ?_) (fun c21_ => ?_)
      · skip
        have L22_ : (-4 : Int32).toInt = -4 := rfl
        have r23_ := mi_f mS7_ 4 rfl
        exact n_rW mS7_ FS7_ (by omega)
      · skip
        have r24_ := mi_f mS7_ 4 rfl
        exact nM_table_56  (by first | decide | (intro k q; exact hE k (by revert q; revert k; decide))) _ _ _ _ mS7_ FS7_ (by first | omega | assumption) (by first | omega | assumption) (by first | omega | assumption) (by first | omega | assumption) (by first | omega | assumption) (by first | omega | assumption) (by simp only [sm_fuel_eq]; omega)
    · skip
      have L25_ : (-3 : Int32).toInt = -3 := rfl
      have r26_ := mi_f mS7_ 4 rfl
      exact n_rW mS7_ FS7_ (by omega)

-- gM_columnOf_192
set_option maxHeartbeats 4000000 in
theorem nM_columnOf_192 {E : List Nat} {S0 : MS} (hE : ∀ k ∈ [10, 11, 12, 13, 14, 15, 16, 17, 19, 20, 21, 25, 8, 9], k ∈ E) : ∀ (n : Nat) (a1 : Int32) (a2 : Int32) (a3 : Int32) (a4 : Int32) (a5 : Int64) (a7 : Int64) (a9 : Int32) (a11 : Int32) (a12 : Int32) (S : MS), MI S → fM E S0 S → 0 ≤ a1.toInt → a1.toInt ≤ 3 → a9.toInt = 0 ∨ a9.toInt = 1 → 0 ≤ a11.toInt → a11.toInt ≤ 14 → 0 ≤ a12.toInt → a12.toInt ≤ 16 → (S.1 8).toInt ≤ 39 → 16 - a12.toInt < (n : Int) → nJ (NW E S0 (fun (r : Int32) (S' : MS) => True)) (gM_columnOf_192 n a1 a2 a3 a4 a5 a7 a9 a11 a12 S) := by
  intro n
  induction n with
  | zero => intro a1 a2 a3 a4 a5 a7 a9 a11 a12 S mS FS p0_ p1_ p2_ p3_ p4_ p5_ p6_ p7_ m_; exfalso; omega
  | succ n ih =>
    intro a1 a2 a3 a4 a5 a7 a9 a11 a12 S mS FS p0_ p1_ p2_ p3_ p4_ p5_ p6_ p7_ m_
    unfold gM_columnOf_192
    have L1_ : (0 : Int32).toInt = 0 := rfl
    have L2_ : (1 : Int32).toInt = 1 := rfl
    refine n_le (fun c3_ => ?_) (fun c3_ => ?_)
    · skip
      have r4_ := mi_f mS 8 rfl
      refine n_let ?_
      have L5_ : (16 : Int32).toInt = 16 := rfl
      try have i6_ : ((16 : Int32) * (S.1 8)).toInt = 16 * (S.1 8).toInt := i_mul (n := 16) rfl (by omega) (by omega)
      try have i7_ : (((16 : Int32) * (S.1 8)) + a11).toInt = ((16 : Int32) * (S.1 8)).toInt + a11.toInt := i_add (by omega) (by omega)
      refine n_wJ (L := 640) mS FS (by first | decide | exact hE _ (by decide) | simp) (by decide) (by omega) (by omega) (fun S8_ mS8_ FS8_ gS8_ hS8_ kS8_ => ?_)
      have q9_ := congrArg Int32.toInt (congrFun gS8_ 8)
      have r10_ := mi_f mS8_ 8 rfl
      refine n_let ?_
      try have i11_ : (a11 + (1 : Int32)).toInt = a11.toInt + (1 : Int32).toInt := i_add (by omega) (by omega)
      refine n_wI (L := 40) mS8_ FS8_ (by first | decide | exact hE _ (by decide) | simp) (by decide) (by decide) rfl (by omega) (by omega) (by omega) (by omega) (fun S12_ mS12_ FS12_ gS12_ hS12_ kS12_ => ?_)
      have q13_ := congrArg Int32.toInt (congrFun gS12_ 8)
      refine n_rI (L := 4) mS12_ (by decide) rfl (by omega) (by omega) (fun x514_ x514_e x514_l x514_u => ?_)
      try have i15_ : (x514_ + (1 : Int32)).toInt = x514_.toInt + (1 : Int32).toInt := i_add (by omega) (by omega)
      refine n_wI (L := 4) mS12_ FS12_ (by first | decide | exact hE _ (by decide) | simp) (by decide) (by decide) rfl (by omega) (by omega) (i_lo _) (i_hi _) (fun S16_ mS16_ FS16_ gS16_ hS16_ kS16_ => ?_)
      have q17_ := congrArg Int32.toInt (congrFun gS16_ 8)
      have r18_ := mi_f mS16_ 8 rfl
      refine n_cW FS16_ (nM_newObject  mS16_ (by first | omega | assumption) (by first | omega | assumption) (by first | omega | assumption) (by first | omega | assumption)) (by first | decide | (intro k q; exact hE k (by revert q; revert k; decide))) (fun x719_ S20_ mS20_ FS20_ fS20_ qx719_ => ?_)
      have r21_ := mi_f mS20_ 8 rfl
      exact n_rW mS20_ FS20_ trivial
    · skip
      have r22_ := mi_f mS 8 rfl
      refine n_let ?_
      have L23_ : (16 : Int32).toInt = 16 := rfl
      try have i24_ : ((16 : Int32) * a1).toInt = 16 * a1.toInt := i_mul (n := 16) rfl (by omega) (by omega)
      try have i25_ : (((16 : Int32) * a1) + a12).toInt = ((16 : Int32) * a1).toInt + a12.toInt := i_add (by omega) (by omega)
      refine n_rJ (L := 64) (by decide) (by omega) (by omega) (fun x1026_ x1026_e => ?_)
      try have i27_ : ((16 : Int32) * (S.1 8)).toInt = 16 * (S.1 8).toInt := i_mul (n := 16) rfl (by omega) (by omega)
      try have i28_ : (((16 : Int32) * (S.1 8)) + a12).toInt = ((16 : Int32) * (S.1 8)).toInt + a12.toInt := i_add (by omega) (by omega)
      refine n_wJ (L := 640) mS FS (by first | decide | exact hE _ (by decide) | simp) (by decide) (by omega) (by omega) (fun S29_ mS29_ FS29_ gS29_ hS29_ kS29_ => ?_)
      have q30_ := congrArg Int32.toInt (congrFun gS29_ 8)
      try have i32_ : (a12 + (1 : Int32)).toInt = a12.toInt + (1 : Int32).toInt := i_add (by omega) (by omega)
      refine n_letv (fun x1231_ x1231_v => ?_)
      have x1231_t := congrArg Int32.toInt x1231_v
      have r33_ := mi_f mS29_ 8 rfl
      exact ih a1 a2 a3 a4 a5 a7 a9 a11 x1231_ S29_ mS29_ FS29_ (by first | omega | assumption) (by first | omega | assumption) (by first | omega | assumption) (by first | omega | assumption) (by first | omega | assumption) (by first | omega | assumption) (by first | omega | assumption) (by first | omega | assumption) (by omega)
