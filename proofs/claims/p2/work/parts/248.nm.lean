-- gM_scalar_87
set_option maxHeartbeats 4000000 in
theorem nM_scalar_87 {E : List Nat} {S0 : MS} (hE : ∀ k ∈ [10, 11, 12, 13, 14, 15, 16, 17, 19, 20, 21, 8, 9], k ∈ E) : ∀ (n : Nat) (a1 : Int32) (a2 : Int32) (a3 : Int64) (a5 : Int64) (a7 : Int32) (a8 : Int32) (S : MS), MI S → fM E S0 S → 0 ≤ a7.toInt → a7.toInt ≤ 15 → 0 ≤ a8.toInt → a8.toInt ≤ 16 → (S.1 8).toInt ≤ 39 → 16 - a8.toInt < (n : Int) → nJ (NW E S0 (fun (r : Int32) (S' : MS) => True)) (gM_scalar_87 n a1 a2 a3 a5 a7 a8 S) := by
  intro n
  induction n with
  | zero => intro a1 a2 a3 a5 a7 a8 S mS FS p0_ p1_ p2_ p3_ p4_ m_; exfalso; omega
  | succ n ih =>
    intro a1 a2 a3 a5 a7 a8 S mS FS p0_ p1_ p2_ p3_ p4_ m_
    unfold gM_scalar_87
    have L1_ : (0 : Int32).toInt = 0 := rfl
    have L2_ : (1 : Int32).toInt = 1 := rfl
    refine n_le (fun c3_ => ?_) (fun c3_ => ?_)
    · skip
      have r4_ := mi_f mS 8 rfl
      refine n_let ?_
      refine n_wI (L := 40) mS FS (by first | decide | exact hE _ (by decide) | simp) (by decide) (by decide) rfl (by omega) (by omega) (by omega) (by omega) (fun S5_ mS5_ FS5_ gS5_ hS5_ kS5_ => ?_)
      have q6_ := congrArg Int32.toInt (congrFun gS5_ 8)
      have L7_ : (-1 : Int32).toInt = -1 := rfl
      have r8_ := mi_f mS5_ 8 rfl
      refine n_cW FS5_ (nM_newObject  mS5_ (by first | omega | assumption) (by first | omega | assumption) (by first | omega | assumption) (by first | omega | assumption)) (by first | decide | (intro k q; exact hE k (by revert q; revert k; decide))) (fun x39_ S10_ mS10_ FS10_ fS10_ qx39_ => ?_)
      have r11_ := mi_f mS10_ 8 rfl
      exact n_rW mS10_ FS10_ trivial
    · skip
      have r12_ := mi_f mS 8 rfl
      refine n_let ?_
      refine n_rJ (L := 16) (by decide) (by omega) (by omega) (fun x613_ x613_e => ?_)
      have L14_ : (16 : Int32).toInt = 16 := rfl
      try have i15_ : ((16 : Int32) * (S.1 8)).toInt = 16 * (S.1 8).toInt := i_mul (n := 16) rfl (by omega) (by omega)
      try have i16_ : (((16 : Int32) * (S.1 8)) + a8).toInt = ((16 : Int32) * (S.1 8)).toInt + a8.toInt := i_add (by omega) (by omega)
      refine n_wJ (L := 640) mS FS (by first | decide | exact hE _ (by decide) | simp) (by decide) (by omega) (by omega) (fun S17_ mS17_ FS17_ gS17_ hS17_ kS17_ => ?_)
      have q18_ := congrArg Int32.toInt (congrFun gS17_ 8)
      try have i20_ : (a8 + (1 : Int32)).toInt = a8.toInt + (1 : Int32).toInt := i_add (by omega) (by omega)
      refine n_letv (fun x819_ x819_v => ?_)
      have x819_t := congrArg Int32.toInt x819_v
      have r21_ := mi_f mS17_ 8 rfl
      exact ih a1 a2 a3 a5 a7 x819_ S17_ mS17_ FS17_ (by first | omega | assumption) (by first | omega | assumption) (by first | omega | assumption) (by first | omega | assumption) (by first | omega | assumption) (by omega)

-- gM_scalar
set_option maxHeartbeats 4000000 in
theorem nM_scalar {a1 : Int32} {a2 : Int32} {a3 : Int64} {a5 : Int64} {S : MS} (mS : MI S)  : nJ (NW [0, 10, 11, 12, 13, 14, 15, 16, 17, 19, 20, 21, 4, 8, 9] S (fun (r : Int32) (S' : MS) => True)) (gM_scalar a1 a2 a3 a5 S) := by
  unfold gM_scalar
  have FS := fM_rf [0, 10, 11, 12, 13, 14, 15, 16, 17, 19, 20, 21, 4, 8, 9] S
  have L1_ : (0 : Int32).toInt = 0 := rfl
  have L2_ : (1 : Int32).toInt = 1 := rfl
  refine n_sI mS FS (by first | decide | exact hE _ (by decide) | simp) rfl (i_lo _) (i_hi _) (fun S3_ mS3_ FS3_ vS3_ gS3_ hS3_ => ?_)
  have q4_ := congrArg Int32.toInt (gS3_ 4 (by decide))
  have q5_ := congrArg Int32.toInt (gS3_ 8 (by decide))
  have r6_ := mi_f mS3_ 4 rfl
  refine n_let ?_
  refine n_sI mS3_ FS3_ (by first | decide | exact hE _ (by decide) | simp) rfl (by omega) (by omega) (fun S7_ mS7_ FS7_ vS7_ gS7_ hS7_ => ?_)
  have q8_ := congrArg Int32.toInt (gS7_ 8 (by decide))
  refine n_cP (nM_isTag  mS7_ ) (fun x49_ qx49_ => ?_)
  refine n_eq (fun c10_ => ?_) (fun c10_ => ?_)
  · skip
    exact n_rW mS7_ FS7_ trivial
  · skip
    have j11_ := Int32.toInt_toInt64 (a2)
    have L12_ : (0 : Int64).toInt = 0 := rfl
    have L13_ : (2 : Int64).toInt = 2 := rfl
    refine n_cP (nM_in  mS7_ ) (fun x614_ qx614_ => ?_)
    refine n_eq (fun c15_ => ?_) (fun c15_ => ?_)
    · skip
      exact n_rW mS7_ FS7_ trivial
    · skip
      refine n_l3 (fun c16_ => ?_) (fun c16_ => ?_)
      · skip
        exact n_rW mS7_ FS7_ trivial
      · skip
        have j17_ := Int32.toInt_toInt64 ((S3_.1 4))
        have L18_ : (15 : Int64).toInt = 15 := rfl
        refine n_cP (nM_in  mS7_ ) (fun x819_ qx819_ => ?_)
        refine n_eq (fun c20_ => ?_) (fun c20_ => ?_)
        · skip
          exact n_rW mS7_ FS7_ trivial
        · skip
          refine n_cP (nM_clashes  mS7_ (by first | omega | assumption) (by first | omega | assumption)) (fun x1021_ qx1021_ => ?_)
          refine n_eq (fun c22_ => ?_) (fun c22_ => ?_)
          · skip
            have r23_ := mi_f mS7_ 8 rfl
            refine n_let ?_
            have L24_ : (40 : Int32).toInt = 40 := rfl
            refine n_eq (fun c25_ => ?_) (fun c25_ => ?_)
            · skip
              exact n_rW mS7_ FS7_ trivial
            · skip
              exact nM_scalar_87  (by first | decide | (intro k q; exact hE k (by revert q; revert k; decide))) _ _ _ _ _ _ _ _ mS7_ FS7_ (by first | omega | assumption) (by first | omega | assumption) (by first | omega | assumption) (by first | omega | assumption) (by first | omega | assumption) (by simp only [sm_fuel_eq]; omega)
          · skip
            exact n_rW mS7_ FS7_ trivial

-- gM_table_56
set_option maxHeartbeats 4000000 in
theorem nM_table_56 {E : List Nat} {S0 : MS} (hE : ∀ k ∈ [22, 23, 24], k ∈ E) : ∀ (n : Nat) (a1 : Int32) (a2 : Int32) (S : MS), MI S → fM E S0 S → 0 ≤ a1.toInt → a1.toInt ≤ 14 → 0 ≤ a2.toInt → a2.toInt ≤ 16 → (S.1 22).toInt ≤ 3 → 16 - a2.toInt < (n : Int) → nJ (NW E S0 (fun (r : Int32) (S' : MS) => True)) (gM_table_56 n a1 a2 S) := by
  intro n
  induction n with
  | zero => intro a1 a2 S mS FS p0_ p1_ p2_ p3_ p4_ m_; exfalso; omega
  | succ n ih =>
    intro a1 a2 S mS FS p0_ p1_ p2_ p3_ p4_ m_
    unfold gM_table_56
    have L1_ : (0 : Int32).toInt = 0 := rfl
    have L2_ : (1 : Int32).toInt = 1 := rfl
    refine n_le (fun c3_ => ?_) (fun c3_ => ?_)
    · skip
      have r4_ := mi_f mS 22 rfl
      refine n_let ?_
      refine n_wI (L := 4) mS FS (by first | decide | exact hE _ (by decide) | simp) (by decide) (by decide) rfl (by omega) (by omega) (by omega) (by omega) (fun S5_ mS5_ FS5_ gS5_ hS5_ kS5_ => ?_)
      have q6_ := congrArg Int32.toInt (congrFun gS5_ 22)
      have r7_ := mi_f mS5_ 22 rfl
      refine n_let ?_
      try have i8_ : ((S5_.1 22) + (1 : Int32)).toInt = (S5_.1 22).toInt + (1 : Int32).toInt := i_add (by omega) (by omega)
      refine n_sI mS5_ FS5_ (by first | decide | exact hE _ (by decide) | simp) rfl (by omega) (by omega) (fun S9_ mS9_ FS9_ vS9_ gS9_ hS9_ => ?_)
      have q10_ := congrArg Int32.toInt vS9_
      have r11_ := mi_f mS9_ 22 rfl
      refine n_let ?_
      exact n_rW mS9_ FS9_ trivial
    · skip
      have r12_ := mi_f mS 22 rfl
      refine n_let ?_
      refine n_rJ (L := 16) (by decide) (by omega) (by omega) (fun x713_ x713_e => ?_)
      have L14_ : (16 : Int32).toInt = 16 := rfl
      try have i15_ : ((16 : Int32) * (S.1 22)).toInt = 16 * (S.1 22).toInt := i_mul (n := 16) rfl (by omega) (by omega)
      try have i16_ : (((16 : Int32) * (S.1 22)) + a2).toInt = ((16 : Int32) * (S.1 22)).toInt + a2.toInt := i_add (by omega) (by omega)
      refine n_wJ (L := 64) mS FS (by first | decide | exact hE _ (by decide) | simp) (by decide) (by omega) (by omega) (fun S17_ mS17_ FS17_ gS17_ hS17_ kS17_ => ?_)
      have q18_ := congrArg Int32.toInt (congrFun gS17_ 22)
      try have i20_ : (a2 + (1 : Int32)).toInt = a2.toInt + (1 : Int32).toInt := i_add (by omega) (by omega)
      refine n_letv (fun x919_ x919_v => ?_)
      have x919_t := congrArg Int32.toInt x919_v
      have r21_ := mi_f mS17_ 22 rfl
      exact ih a1 x919_ S17_ mS17_ FS17_ (by first | omega | assumption) (by first | omega | assumption) (by first | omega | assumption) (by first | omega | assumption) (by first | omega | assumption) (by omega)

-- gM_table
set_option maxHeartbeats 4000000 in
theorem nM_table  {S : MS} (mS : MI S)  : nJ (NW [0, 22, 23, 24, 4] S (fun (r : Int32) (S' : MS) => True)) (gM_table  S) := by
  unfold gM_table
  have FS := fM_rf [0, 22, 23, 24, 4] S
  have L1_ : (0 : Int32).toInt = 0 := rfl
  have L2_ : (1 : Int32).toInt = 1 := rfl
  refine n_sI mS FS (by first | decide | exact hE _ (by decide) | simp) rfl (i_lo _) (i_hi _) (fun S3_ mS3_ FS3_ vS3_ gS3_ hS3_ => ?_)
  have q4_ := congrArg Int32.toInt (gS3_ 4 (by decide))
  have q5_ := congrArg Int32.toInt (gS3_ 22 (by decide))
  have r6_ := mi_f mS3_ 4 rfl
  refine n_let ?_
  refine n_sI mS3_ FS3_ (by first | decide | exact hE _ (by decide) | simp) rfl (by omega) (by omega) (fun S7_ mS7_ FS7_ vS7_ gS7_ hS7_ => ?_)
  have q8_ := congrArg Int32.toInt (gS7_ 22 (by decide))
  have j9_ := Int32.toInt_toInt64 ((S3_.1 4))
  have L10_ : (2 : Int64).toInt = 2 := rfl
  have L11_ : (14 : Int64).toInt = 14 := rfl
  refine n_cP (nM_in  mS7_ ) (fun x412_ qx412_ => ?_)
  refine n_eq (fun c13_ => ?_) (fun c13_ => ?_)
  · skip
    exact n_rW mS7_ FS7_ trivial
  · skip
    refine n_cP (nM_clashes  mS7_ (by first | omega | assumption) (by first | omega | assumption)) (fun x614_ qx614_ => ?_)
    refine n_eq (fun c15_ => ?_) (fun c15_ => ?_)
    · skip
      have r16_ := mi_f mS7_ 22 rfl
      refine n_let ?_
      have L17_ : (4 : Int32).toInt = 4 := rfl
      refine n_eq (fun c18_ => ?_) (fun c18_ => ?_)
      · skip
        exact n_rW mS7_ FS7_ trivial
      · skip
        exact nM_table_56  (by first | decide | (intro k q; exact hE k (by revert q; revert k; decide))) _ _ _ _ mS7_ FS7_ (by first | omega | assumption) (by first | omega | assumption) (by first | omega | assumption) (by first | omega | assumption) (by first | omega | assumption) (by simp only [sm_fuel_eq]; omega)
    · skip
      exact n_rW mS7_ FS7_ trivial

-- gM_columnOf_192
set_option maxHeartbeats 4000000 in
theorem nM_columnOf_192 {E : List Nat} {S0 : MS} (hE : ∀ k ∈ [10, 11, 12, 13, 14, 15, 16, 17, 19, 20, 21, 25, 8, 9], k ∈ E) : ∀ (n : Nat) (a1 : Int32) (a2 : Int32) (a3 : Int32) (a4 : Int32) (a5 : Int64) (a7 : Int64) (a9 : Int32) (a11 : Int32) (a12 : Int32) (S : MS), MI S → fM E S0 S → 0 ≤ a1.toInt → a1.toInt ≤ 3 → a9.toInt = 0 ∨ a9.toInt = 1 → 0 ≤ a11.toInt → a11.toInt ≤ 14 → 0 ≤ a12.toInt → a12.toInt ≤ 16 → (S.1 8).toInt ≤ 39 → 16 - a12.toInt < (n : Int) → nJ (NW E S0 (fun (r : Int32) (S' : MS) => True)) (gM_columnOf_192 n a1 a2 a3 a4 a5 a7 a9 a11 a12 S) := by
  intro n
  induction n with
  | zero => intro a1 a2 a3 a4 a5 a7 a9 a11 a12 S mS FS p0_ p1_ p2_ p3_ p4_ p5_ p6_ p7_ m_; exfalso; omega
  | succ n ih =>
    intro a1 a2 a3 a4 a5 a7 a9 a11 a12 S mS FS p0_ p1_ p2_ p3_ p4_ p5_ p6_ p7_ m_
    unfold gM_columnOf_192
    have L1_ : (0 : Int32).toInt = 0 := rfl
    have L2_ : (1 : Int32).toInt = 1 := rfl
    refine n_le (fun c3_ => ?_) (fun c3_ => ?_)
    · skip
      have r4_ := mi_f mS 8 rfl
      refine n_let ?_
      have L5_ : (16 : Int32).toInt = 16 := rfl
      try have i6_ : ((16 : Int32) * (S.1 8)).toInt = 16 * (S.1 8).toInt := i_mul (n := 16) rfl (by omega) (by omega)
      try have i7_ : (((16 : Int32) * (S.1 8)) + a11).toInt = ((16 : Int32) * (S.1 8)).toInt + a11.toInt := i_add (by omega) (by omega)
      refine n_wJ (L := 640) mS FS (by first | decide | exact hE _ (by decide) | simp) (by decide) (by omega) (by omega) (fun S8_ mS8_ FS8_ gS8_ hS8_ kS8_ => ?_)
      have q9_ := congrArg Int32.toInt (congrFun gS8_ 8)
      have r10_ := mi_f mS8_ 8 rfl
      refine n_let ?_
      try have i11_ : (a11 + (1 : Int32)).toInt = a11.toInt + (1 : Int32).toInt := i_add (by omega) (by omega)
      refine n_wI (L := 40) mS8_ FS8_ (by first | decide | exact hE _ (by decide) | simp) (by decide) (by decide) rfl (by omega) (by omega) (by omega) (by omega) (fun S12_ mS12_ FS12_ gS12_ hS12_ kS12_ => ?_)
      have q13_ := congrArg Int32.toInt (congrFun gS12_ 8)
      refine n_rI (L := 4) mS12_ (by decide) rfl (by omega) (by omega) (fun x514_ x514_e x514_l x514_u => ?_)
      try have i15_ : (x514_ + (1 : Int32)).toInt = x514_.toInt + (1 : Int32).toInt := i_add (by omega) (by omega)
      refine n_wI (L := 4) mS12_ FS12_ (by first | decide | exact hE _ (by decide) | simp) (by decide) (by decide) rfl (by omega) (by omega) (i_lo _) (i_hi _) (fun S16_ mS16_ FS16_ gS16_ hS16_ kS16_ => ?_)
      have q17_ := congrArg Int32.toInt (congrFun gS16_ 8)
      have r18_ := mi_f mS16_ 8 rfl
      refine n_cW FS16_ (nM_newObject  mS16_ (by first | omega | assumption) (by first | omega | assumption) (by first | omega | assumption) (by first | omega | assumption)) (by first | decide | (intro k q; exact hE k (by revert q; revert k; decide))) (fun x719_ S20_ mS20_ FS20_ fS20_ qx719_ => ?_)
      have r21_ := mi_f mS20_ 8 rfl
      exact n_rW mS20_ FS20_ trivial
    · skip
      have r22_ := mi_f mS 8 rfl
      refine n_let ?_
      have L23_ : (16 : Int32).toInt = 16 := rfl
      try have i24_ : ((16 : Int32) * a1).toInt = 16 * a1.toInt := i_mul (n := 16) rfl (by omega) (by omega)
      try have i25_ : (((16 : Int32) * a1) + a12).toInt = ((16 : Int32) * a1).toInt + a12.toInt := i_add (by omega) (by omega)
      refine n_rJ (L := 64) (by decide) (by omega) (by omega) (fun x1026_ x1026_e => ?_)
      try have i27_ : ((16 : Int32) * (S.1 8)).toInt = 16 * (S.1 8).toInt := i_mul (n := 16) rfl (by omega) (by omega)
      try have i28_ : (((16 : Int32) * (S.1 8)) + a12).toInt = ((16 : Int32) * (S.1 8)).toInt + a12.toInt := i_add (by omega) (by omega)
      refine n_wJ (L := 640) mS FS (by first | decide | exact hE _ (by decide) | simp) (by decide) (by omega) (by omega) (fun S29_ mS29_ FS29_ gS29_ hS29_ kS29_ => ?_)
      have q30_ := congrArg Int32.toInt (congrFun gS29_ 8)
      try have i32_ : (a12 + (1 : Int32)).toInt = a12.toInt + (1 : Int32).toInt := i_add (by omega) (by omega)
      refine n_letv (fun x1231_ x1231_v => ?_)
      have x1231_t := congrArg Int32.toInt x1231_v
      have r33_ := mi_f mS29_ 8 rfl
      exact ih a1 a2 a3 a4 a5 a7 a9 a11 x1231_ S29_ mS29_ FS29_ (by first | omega | assumption) (by first | omega | assumption) (by first | omega | assumption) (by first | omega | assumption) (by first | omega | assumption) (by first | omega | assumption) (by first | omega | assumption) (by first | omega | assumption) (by omega)

-- gM_columnOf_86
set_option maxHeartbeats 4000000 in
theorem nM_columnOf_86 {E : List Nat} {S0 : MS} (hE : ∀ k ∈ [10, 11, 12, 13, 14, 15, 16, 17, 19, 20, 21, 25, 8, 9], k ∈ E) : ∀ (n : Nat) (a1 : Int32) (a2 : Int32) (a3 : Int32) (a4 : Int32) (a5 : Int64) (a7 : Int64) (a9 : Int32) (a10 : Int32) (a11 : Int32) (a12 : Int32) (S : MS), MI S → fM E S0 S → 0 ≤ a1.toInt → a1.toInt ≤ 3 → a9.toInt = 0 ∨ a9.toInt = 1 → a10.toInt = 0 ∨ a10.toInt = 1 → 0 ≤ a11.toInt → a11.toInt ≤ 14 → 0 ≤ a12.toInt → a12.toInt ≤ 1200 → 1200 - a12.toInt < (n : Int) → nJ (NW E S0 (fun (r : Int32) (S' : MS) => True)) (gM_columnOf_86 n a1 a2 a3 a4 a5 a7 a9 a10 a11 a12 S) := by
  intro n
  induction n with
  | zero => intro a1 a2 a3 a4 a5 a7 a9 a10 a11 a12 S mS FS p0_ p1_ p2_ p3_ p4_ p5_ p6_ p7_ m_; exfalso; omega
  | succ n ih =>
    intro a1 a2 a3 a4 a5 a7 a9 a10 a11 a12 S mS FS p0_ p1_ p2_ p3_ p4_ p5_ p6_ p7_ m_
    unfold gM_columnOf_86
    have L1_ : (0 : Int32).toInt = 0 := rfl
    have L2_ : (1 : Int32).toInt = 1 := rfl
    have r3_ := mi_f mS 8 rfl
    refine n_let ?_
    refine n_le (fun c4_ => ?_) (fun c4_ => ?_)
    · skip
      refine n_eq (fun c5_ => ?_) (fun c5_ => ?_)
      · skip
        refine n_rI (L := 4) mS (by decide) rfl (by omega) (by omega) (fun x26_ x26_e x26_l x26_u => ?_)
        have L7_ : (6 : Int32).toInt = 6 := rfl
        refine n_eq (fun c8_ => ?_) (fun c8_ => ?_)
        · skip
          exact n_rW mS FS trivial
        · skip
          refine n_let ?_
          have L9_ : (40 : Int32).toInt = 40 := rfl
          refine n_eq (fun c10_ => ?_) (fun c10_ => ?_)
          · skip
            exact n_rW mS FS trivial
          · skip
            exact nM_columnOf_192  (by first | decide | (intro k q; exact hE k (by revert q; revert k; decide))) _ _ _ _ _ _ _ _ _ _ _ mS FS (by first | omega | assumption) (by first | omega | assumption) (by first | omega | assumption) (by first | omega | assumption) (by first | omega | assumption) (by first | omega | assumption) (by first | omega | assumption) (by first | omega | assumption) (by simp only [sm_fuel_eq]; omega)
      · skip
        exact n_rW mS FS trivial
    · skip
      refine n_eq (fun c11_ => ?_) (fun c11_ => ?_)
      · skip
        refine n_rI (L := 40) mS (by decide) rfl (by omega) (by omega) (fun x512_ x512_e x512_l x512_u => ?_)
        refine n_eq (fun c13_ => ?_) (fun c13_ => ?_)
        · skip
          have L14_ : (16 : Int32).toInt = 16 := rfl
          try have i15_ : ((16 : Int32) * a12).toInt = 16 * a12.toInt := i_mul (n := 16) rfl (by omega) (by omega)
          try have i16_ : (((16 : Int32) * a12) + a11).toInt = ((16 : Int32) * a12).toInt + a11.toInt := i_add (by omega) (by omega)
          refine n_rJ (L := 640) (by decide) (by omega) (by omega) (fun x717_ x717_e => ?_)
          have j18_ := Int32.toInt_toInt64 (a2)
          refine n_l0 (fun c19_ => ?_) (fun c19_ => ?_)
          · skip
            try have i21_ : (a12 + (1 : Int32)).toInt = a12.toInt + (1 : Int32).toInt := i_add (by omega) (by omega)
            refine n_letv (fun x820_ x820_v => ?_)
            have x820_t := congrArg Int32.toInt x820_v
            exact ih a1 a2 a3 a4 a5 a7 a9 (1 : Int32) a11 x820_ S mS FS (by first | omega | assumption) (by first | omega | assumption) (by first | omega | assumption) (by first | omega | assumption) (by first | omega | assumption) (by first | omega | assumption) (by first | omega | assumption) (by first | omega | assumption) (by omega)
          · skip
            refine n_eq (fun c22_ => ?_) (fun c22_ => ?_)
            · skip
              try have i24_ : (a12 + (1 : Int32)).toInt = a12.toInt + (1 : Int32).toInt := i_add (by omega) (by omega)
              refine n_letv (fun x923_ x923_v => ?_)
              have x923_t := congrArg Int32.toInt x923_v
              exact ih a1 a2 a3 a4 a5 a7 a9 (0 : Int32) a11 x923_ S mS FS (by first | omega | assumption) (by first | omega | assumption) (by first | omega | assumption) (by first | omega | assumption) (by first | omega | assumption) (by first | omega | assumption) (by first | omega | assumption) (by first | omega | assumption) (by omega)
            · skip
              refine n_rI (L := 40) mS (by decide) rfl (by omega) (by omega) (fun x1025_ x1025_e x1025_l x1025_u => ?_)
              refine n_eq (fun c26_ => ?_) (fun c26_ => ?_)
              · skip
                try have i28_ : (a12 + (1 : Int32)).toInt = a12.toInt + (1 : Int32).toInt := i_add (by omega) (by omega)
                refine n_letv (fun x1127_ x1127_v => ?_)
                have x1127_t := congrArg Int32.toInt x1127_v
                exact ih a1 a2 a3 a4 a5 a7 a9 (0 : Int32) a11 x1127_ S mS FS (by first | omega | assumption) (by first | omega | assumption) (by first | omega | assumption) (by first | omega | assumption) (by first | omega | assumption) (by first | omega | assumption) (by first | omega | assumption) (by first | omega | assumption) (by omega)
              · skip
                try have i30_ : (a12 + (1 : Int32)).toInt = a12.toInt + (1 : Int32).toInt := i_add (by omega) (by omega)
                refine n_letv (fun x1229_ x1229_v => ?_)
                have x1229_t := congrArg Int32.toInt x1229_v
                exact ih a1 a2 a3 a4 a5 a7 a9 (1 : Int32) a11 x1229_ S mS FS (by first | omega | assumption) (by first | omega | assumption) (by first | omega | assumption) (by first | omega | assumption) (by first | omega | assumption) (by first | omega | assumption) (by first | omega | assumption) (by first | omega | assumption) (by omega)
        · skip
          try have i32_ : (a12 + (1 : Int32)).toInt = a12.toInt + (1 : Int32).toInt := i_add (by omega) (by omega)
          refine n_letv (fun x631_ x631_v => ?_)
          have x631_t := congrArg Int32.toInt x631_v
          exact ih a1 a2 a3 a4 a5 a7 a9 (0 : Int32) a11 x631_ S mS FS (by first | omega | assumption) (by first | omega | assumption) (by first | omega | assumption) (by first | omega | assumption) (by first | omega | assumption) (by first | omega | assumption) (by first | omega | assumption) (by first | omega | assumption) (by omega)
      · skip
        try have i34_ : (a12 + (1 : Int32)).toInt = a12.toInt + (1 : Int32).toInt := i_add (by omega) (by omega)
        refine n_letv (fun x433_ x433_v => ?_)
        have x433_t := congrArg Int32.toInt x433_v
        exact ih a1 a2 a3 a4 a5 a7 a9 (1 : Int32) a11 x433_ S mS FS (by first | omega | assumption) (by first | omega | assumption) (by first | omega | assumption) (by first | omega | assumption) (by first | omega | assumption) (by first | omega | assumption) (by first | omega | assumption) (by first | omega | assumption) (by omega)
