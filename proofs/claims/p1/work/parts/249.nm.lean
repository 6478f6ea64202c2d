-- gM_columnOf_86
set_option maxHeartbeats 4000000 in
theorem nM_columnOf_86 {E : List Nat} {S0 : MS} (hE : ∀ k ∈ [10, 11, 12, 13, 14, 15, 16, 17, 19, 20, 21, 25, 8, 9], k ∈ E) : ∀ (n : Nat) (a1 : Int32) (a2 : Int32) (a3 : Int32) (a4 : Int32) (a5 : Int64) (a7 : Int64) (a9 : Int32) (a10 : Int32) (a11 : Int32) (a12 : Int32) (S : MS), MI S → fM E S0 S → 0 ≤ a1.toInt → a1.toInt ≤ 3 → a9.toInt = 0 ∨ a9.toInt = 1 → a10.toInt = 0 ∨ a10.toInt = 1 → 0 ≤ a11.toInt → a11.toInt ≤ 14 → 0 ≤ a12.toInt → a12.toInt ≤ 1200 → 1200 - a12.toInt < (n : Int) → nJ (NW E S0 (fun (r : Int32) (S' : MS) => True)) (gM_columnOf_86 n a1 a2 a3 a4 a5 a7 a9 a10 a11 a12 S) := by
  intro n
  induction n with
  | zero => intro a1 a2 a3 a4 a5 a7 a9 a10 a11 a12 S mS FS p0_ p1_ p2_ p3_ p4_ p5_ p6_ p7_ m_; exfalso; omega
  | succ n ih =>
    intro a1 a2 a3 a4 a5 a7 a9 a10 a11 a12 S mS FS p0_ p1_ p2_ p3_ p4_ p5_ p6_ p7_ m_
    unfold gM_columnOf_86
    have L1_ : (0 : Int32).toInt = 0 := rfl
    have L2_ : (1 : Int32).toInt = 1 := rfl
    have r3_ := mi_f mS 8 rfl
    refine n_let ?_
    refine n_le (fun c4_ => ?_) (fun c4_ => ?_)
    · skip
      refine n_eq (fun c5_ => ?_) (fun c5_ => ?_)
      · skip
        refine n_rI (L := 4) mS (by decide) rfl (by omega) (by omega) (fun x26_ x26_e x26_l x26_u => ?_)
        have L7_ : (6 : Int32).toInt = 6 := rfl
        refine n_eq (fun c8_ => ?_) (fun c8_ => ?_)
        · skip
          exact n_rW mS FS trivial
        · skip
          refine n_let ?_
          have L9_ : (40 : Int32).toInt = 40 := rfl
          refine n_eq (fun c10_ => ?_) (fun c10_ => ?_)
          · skip
            exact n_rW mS FS trivial
          · skip
            exact nM_columnOf_192  (by first | decide | (intro k q; exact hE k (by revert q; revert k; decide))) _ _ _ _ _ _ _ _ _ _ _ mS FS (by first | omega | assumption) (by first | omega | assumption) (by first | omega | assumption) (by first | omega | assumption) (by first | omega | assumption) (by first | omega | assumption) (by first | omega | assumption) (by first | omega | assumption) (by simp only [sm_fuel_eq]; omega)
      · skip
        exact n_rW mS FS trivial
    · skip
      refine n_eq (fun c11_ => ?_) (fun c11_ => ?_)
      · skip
        refine n_rI (L := 40) mS (by decide) rfl (by omega) (by omega) (fun x512_ x512_e x512_l x512_u => ?_)
        refine n_eq (fun c13_ => ?_) (fun c13_ => ?_)
        · skip
          have L14_ : (16 : Int32).toInt = 16 := rfl
          try have i15_ : ((16 : Int32) * a12).toInt = 16 * a12.toInt := i_mul (n := 16) rfl (by omega) (by omega)
          try have i16_ : (((16 : Int32) * a12) + a11).toInt = ((16 : Int32) * a12).toInt + a11.toInt := i_add (by omega) (by omega)
          refine n_rJ (L := 640) (by decide) (by omega) (by omega) (fun x717_ x717_e => ?_)
          have j18_ := Int32.toInt_toInt64 (a2)
          refine n_l0 (fun c19_ => ?_) (fun c19_ => ?_)
          · skip
            try have i21_ : (a12 + (1 : Int32)).toInt = a12.toInt + (1 : Int32).toInt := i_add (by omega) (by omega)
            refine n_letv (fun x820_ x820_v => ?_)
            have x820_t := congrArg Int32.toInt x820_v
            exact ih a1 a2 a3 a4 a5 a7 a9 (1 : Int32) a11 x820_ S mS FS (by first | omega | assumption) (by first | omega | assumption) (by first | omega | assumption) (by first | omega | assumption) (by first | omega | assumption) (by first | omega | assumption) (by first | omega | assumption) (by first | omega | assumption) (by omega)
          · skip
            refine n_eq (fun c22_ => ?_) (fun c22_ => ?_)
            · skip
              try have i24_ : (a12 + (1 : Int32)).toInt = a12.toInt + (1 : Int32).toInt := i_add (by omega) (by omega)
              refine n_letv (fun x923_ x923_v => ?_)
              have x923_t := congrArg Int32.toInt x923_v
              exact ih a1 a2 a3 a4 a5 a7 a9 (0 : Int32) a11 x923_ S mS FS (by first | omega | assumption) (by first | omega | assumption) (by first | omega | assumption) (by first | omega | assumption) (by first | omega | assumption) (by first | omega | assumption) (by first | omega | assumption) (by first | omega | assumption) (by omega)
            · skip
              refine n_rI (L := 40) mS (by decide) rfl (by omega) (by omega) (fun x1025_ x1025_e x1025_l x1025_u => ?_)
              refine n_eq (fun c26_ => ?_) (fun c26_ => ?_)
              · skip
                try have i28_ : (a12 + (1 : Int32)).toInt = a12.toInt + (1 : Int32).toInt := i_add (by omega) (by omega)
                refine n_letv (fun x1127_ x1127_v => ?_)
                have x1127_t := congrArg Int32.toInt x1127_v
                exact ih a1 a2 a3 a4 a5 a7 a9 (0 : Int32) a11 x1127_ S mS FS (by first | omega | assumption) (by first | omega | assumption) (by first | omega | assumption) (by first | omega | assumption) (by first | omega | assumption) (by first | omega | assumption) (by first | omega | assumption) (by first | omega | assumption) (by omega)
              · skip
                try have i30_ : (a12 + (1 : Int32)).toInt = a12.toInt + (1 : Int32).toInt := i_add (by omega) (by omega)
                refine n_letv (fun x1229_ x1229_v => ?_)
                have x1229_t := congrArg Int32.toInt x1229_v
                exact ih a1 a2 a3 a4 a5 a7 a9 (1 : Int32) a11 x1229_ S mS FS (by first | omega | assumption) (by first | omega | assumption) (by first | omega | assumption) (by first | omega | assumption) (by first | omega | assumption) (by first | omega | assumption) (by first | omega | assumption) (by first | omega | assumption) (by omega)
        · skip
          try have i32_ : (a12 + (1 : Int32)).toInt = a12.toInt + (1 : Int32).toInt := i_add (by omega) (by omega)
          refine n_letv (fun x631_ x631_v => ?_)
          have x631_t := congrArg Int32.toInt x631_v
          exact ih a1 a2 a3 a4 a5 a7 a9 (0 : Int32) a11 x631_ S mS FS (by first | omega | assumption) (by first | omega | assumption) (by first | omega | assumption) (by first | omega | assumption) (by first | omega | assumption) (by first | omega | assumption) (by first | omega | assumption) (by first | omega | assumption) (by omega)
      · skip
        try have i34_ : (a12 + (1 : Int32)).toInt = a12.toInt + (1 : Int32).toInt := i_add (by omega) (by omega)
        refine n_letv (fun x433_ x433_v => ?_)
        have x433_t := congrArg Int32.toInt x433_v
        exact ih a1 a2 a3 a4 a5 a7 a9 (1 : Int32) a11 x433_ S mS FS (by first | omega | assumption) (by first | omega | assumption) (by first | omega | assumption) (by first | omega | assumption) (by first | omega | assumption) (by first | omega | assumption) (by first | omega | assumption) (by first | omega | assumption) (by omega)

-- gM_columnOf
set_option maxHeartbeats 4000000 in
theorem nM_columnOf {a1 : Int32} {a2 : Int32} {a3 : Int32} {a4 : Int32} {a5 : Int64} {a7 : Int64} {a9 : Int32} {S : MS} (mS : MI S)  (p0_ : a9.toInt = 0 ∨ a9.toInt = 1) : nJ (NW [0, 10, 11, 12, 13, 14, 15, 16, 17, 19, 20, 21, 25, 8, 9] S (fun (r : Int32) (S' : MS) => True)) (gM_columnOf a1 a2 a3 a4 a5 a7 a9 S) := by
  unfold gM_columnOf
  have FS := fM_rf [0, 10, 11, 12, 13, 14, 15, 16, 17, 19, 20, 21, 25, 8, 9] S
  have L1_ : (0 : Int32).toInt = 0 := rfl
  have L2_ : (1 : Int32).toInt = 1 := rfl
  refine n_sI mS FS (by first | decide | exact hE _ (by decide) | simp) rfl (i_lo _) (i_hi _) (fun S3_ mS3_ FS3_ vS3_ gS3_ hS3_ => ?_)
  have q4_ := congrArg Int32.toInt (gS3_ 22 (by decide))
  have r5_ := mi_f mS3_ 22 rfl
  refine n_let ?_
  have j6_ := Int32.toInt_toInt64 (a1)
  have L7_ : (0 : Int64).toInt = 0 := rfl
  try have i8_ : ((S3_.1 22) - (1 : Int32)).toInt = (S3_.1 22).toInt - (1 : Int32).toInt := i_sub (by omega) (by omega)
  have j9_ := Int32.toInt_toInt64 (((S3_.1 22) - (1 : Int32)))
  refine n_cP (nM_in  mS3_ ) (fun x310_ qx310_ => ?_)
  refine n_eq (fun c11_ => ?_) (fun c11_ => ?_)
  · skip
    exact n_rW mS3_ FS3_ trivial
  · skip
    refine n_lt (fun c12_ => ?_) (fun c12_ => ?_)
    · skip
      exact n_rW mS3_ FS3_ trivial
    · skip
      refine n_cP (nM_isTag  mS3_ ) (fun x513_ qx513_ => ?_)
      refine n_eq (fun c14_ => ?_) (fun c14_ => ?_)
      · skip
        exact n_rW mS3_ FS3_ trivial
      · skip
        have j15_ := Int32.toInt_toInt64 (a4)
        have L16_ : (2 : Int64).toInt = 2 := rfl
        refine n_cP (nM_in  mS3_ ) (fun x717_ qx717_ => ?_)
        refine n_eq (fun c18_ => ?_) (fun c18_ => ?_)
        · skip
          exact n_rW mS3_ FS3_ trivial
        · skip
          refine n_l2 (fun c19_ => ?_) (fun c19_ => ?_)
          · skip
            refine n_rI (L := 4) mS3_ (by decide) rfl (by omega) (by omega) (fun x920_ x920_e x920_l x920_u => ?_)
            refine n_le (fun c21_ => ?_) (fun c21_ => ?_)
            · skip
              unfold gM_columnOf_73
              refine n_rI (L := 4) mS3_ (by decide) rfl (by omega) (by omega) (fun x122_ x122_e x122_l x122_u => ?_)
              exact nM_columnOf_86  (by first | decide | (intro k q; exact hE k (by revert q; revert k; decide))) _ _ _ _ _ _ _ _ _ _ _ _ mS3_ FS3_ (by first | omega | assumption) (by first | omega | assumption) (by first | omega | assumption) (by first | omega | assumption) (by first | omega | assumption) (by first | omega | assumption) (by first | omega | assumption) (by first | omega | assumption) (by simp only [sm_fuel_eq]; omega)
            · skip
              unfold gM_columnOf_73
              refine n_rI (L := 4) mS3_ (by decide) rfl (by omega) (by omega) (fun x123_ x123_e x123_l x123_u => ?_)
              exact nM_columnOf_86  (by first | decide | (intro k q; exact hE k (by revert q; revert k; decide))) _ _ _ _ _ _ _ _ _ _ _ _ mS3_ FS3_ (by first | omega | assumption) (by first | omega | assumption) (by first | omega | assumption) (by first | omega | assumption) (by first | omega | assumption) (by first | omega | assumption) (by first | omega | assumption) (by first | omega | assumption) (by simp only [sm_fuel_eq]; omega)
          · skip
            exact n_rW mS3_ FS3_ trivial

-- gM_column
set_option maxHeartbeats 4000000 in
theorem nM_column {a1 : Int32} {a2 : Int32} {a3 : Int32} {a4 : Int32} {a5 : Int64} {a7 : Int64} {S : MS} (mS : MI S)  : nJ (NW [0, 10, 11, 12, 13, 14, 15, 16, 17, 19, 20, 21, 25, 8, 9] S (fun (r : Int32) (S' : MS) => True)) (gM_column a1 a2 a3 a4 a5 a7 S) := by
  unfold gM_column
  have FS := fM_rf [0, 10, 11, 12, 13, 14, 15, 16, 17, 19, 20, 21, 25, 8, 9] S
  have L1_ : (0 : Int32).toInt = 0 := rfl
  have L2_ : (1 : Int32).toInt = 1 := rfl
  refine n_cW FS (nM_columnOf  mS (by first | omega | assumption)) (by first | decide | (intro k q; exact hE k (by revert q; revert k; decide))) (fun x13_ S4_ mS4_ FS4_ fS4_ qx13_ => ?_)
  exact n_rW mS4_ FS4_ trivial

-- gM_status
set_option maxHeartbeats 4000000 in
theorem nM_status {a1 : Int32} {a2 : Int32} {S : MS} (mS : MI S)  : nJ (NW [0, 10, 11, 12, 13, 14, 15, 16, 17, 19, 20, 21, 25, 8, 9] S (fun (r : Int32) (S' : MS) => True)) (gM_status a1 a2 S) := by
  unfold gM_status
  have FS := fM_rf [0, 10, 11, 12, 13, 14, 15, 16, 17, 19, 20, 21, 25, 8, 9] S
  have L1_ : (0 : Int32).toInt = 0 := rfl
  have L2_ : (1 : Int32).toInt = 1 := rfl
  have L3_ : (2 : Int32).toInt = 2 := rfl
  have L4_ : (1 : Int64).toInt = 1 := rfl
  have L5_ : (6 : Int64).toInt = 6 := rfl
  refine n_cW FS (nM_columnOf  mS (by first | omega | assumption)) (by first | decide | (intro k q; exact hE k (by revert q; revert k; decide))) (fun x16_ S7_ mS7_ FS7_ fS7_ qx16_ => ?_)
  exact n_rW mS7_ FS7_ trivial

-- gM_placeOf_3
-- E: P
def plcQ (S : MS) (t r : Int) : Prop := r = -1 ∨ (0 ≤ r ∧ r ≤ 15 ∧ 0 < (S.2.2.1 27 (16 * t + r).toNat).toInt)
set_option maxHeartbeats 4000000 in
theorem nM_placeOf_3 : ∀ (n : Nat) (a1 : Int32) (a2 : Int64) (a4 : Int32) (S : MS), MI S → 0 ≤ a1.toInt → a1.toInt ≤ 3 → 0 ≤ a4.toInt → a4.toInt ≤ 16 → 16 - a4.toInt < (n : Int) → nJ (NP S (fun r : Int32 => plcQ S a1.toInt r.toInt)) (gM_placeOf_3 n a1 a2 a4 S) := by
  have L1 : (1 : Int32).toInt = 1 := rfl
  have L16 : (16 : Int32).toInt = 16 := rfl
  have J0 : (0 : Int64).toInt = 0 := rfl
  intro n
  induction n with
  | zero => intro a1 a2 a4 S m p0 p1 p2 p3 q; exfalso; omega
  | succ n ih =>
    intro a1 a2 a4 S m p0 p1 p2 p3 q
    unfold gM_placeOf_3
    refine n_le (fun c => ?_) (fun c => ?_)
    · exact n_rP (Or.inl rfl)
    · have i1 : ((16 : Int32) * a1).toInt = 16 * a1.toInt := i_mul (n := 16) rfl (by omega) (by omega)
      have i2 : ((16 : Int32) * a1 + a4).toInt = ((16 : Int32) * a1).toInt + a4.toInt := i_add (by omega) (by omega)
      have i3 : (a4 + 1).toInt = a4.toInt + 1 := i_add1 (by omega)
      refine n_rI (L := 64) m (by decide) rfl (by omega) (by omega) (fun x e l u => ?_)
      have j1 := Int32.toInt_toInt64 x
      refine n_l0 (fun c2 => ?_) (fun c2 => ?_)
      · refine n_l2 (fun c3 => ?_) (fun c3 => ?_)
        · refine n_let ?_
          exact ih _ _ _ _ m p0 p1 (by omega) (by omega) (by omega)
        · refine n_rP (Or.inr ⟨by omega, by omega, ?_⟩)
          rw [i2, i1] at e
          rw [← e]; omega
      · refine n_let ?_
        exact ih _ _ _ _ m p0 p1 (by omega) (by omega) (by omega)

-- gM_placeOf
-- E: P
theorem nM_placeOf {a1 : Int32} {a2 : Int64} {S : MS} (mS : MI S) (p0 : 0 ≤ a1.toInt) (p1 : a1.toInt ≤ 3) : nJ (NP S (fun r : Int32 => plcQ S a1.toInt r.toInt)) (gM_placeOf a1 a2 S) := by
  have L0 : (0 : Int32).toInt = 0 := rfl
  unfold gM_placeOf
  exact nM_placeOf_3 _ _ _ _ _ mS p0 p1 (by omega) (by omega) (by simp only [sm_fuel_eq]; omega)
theorem plc_b {S : MS} {t r : Int} (h : plcQ S t r) : r = -1 ∨ (0 ≤ r ∧ r ≤ 15) := by
  rcases h with h | ⟨h1, h2, -⟩
  · exact Or.inl h
  · exact Or.inr ⟨h1, h2⟩

-- gM_makeRow_50
set_option maxHeartbeats 4000000 in
theorem nM_makeRow_50 {E : List Nat} {S0 : MS} (hE : ∀ k ∈ [17, 19, 20, 21], k ∈ E) : ∀ (n : Nat) (a1 : Int32) (a3 : Int64) (a5 : Int32) (a6 : Int32) (S : MS), MI S → fM E S0 S → 0 ≤ a1.toInt → a1.toInt ≤ 3 → 0 ≤ a5.toInt → a5.toInt ≤ 15 → 0 ≤ a6.toInt → a6.toInt ≤ 1200 → 1200 - a6.toInt < (n : Int) → nJ (NW E S0 (fun (r : Unit) (S' : MS) => True)) (gM_makeRow_50 n a1 a3 a5 a6 S) := by
  intro n
  induction n with
  | zero => intro a1 a3 a5 a6 S mS FS p0_ p1_ p2_ p3_ p4_ p5_ m_; exfalso; omega
  | succ n ih =>
    intro a1 a3 a5 a6 S mS FS p0_ p1_ p2_ p3_ p4_ p5_ m_
    unfold gM_makeRow_50
    have L1_ : (0 : Int32).toInt = 0 := rfl
    have L2_ : (1 : Int32).toInt = 1 := rfl
    have r3_ := mi_f mS 8 rfl
    refine n_let ?_
    refine n_le (fun c4_ => ?_) (fun c4_ => ?_)
    · skip
      exact n_rW mS FS trivial
    · skip
      refine n_rI (L := 40) mS (by decide) rfl (by omega) (by omega) (fun x25_ x25_e x25_l x25_u => ?_)
      refine n_eq (fun c6_ => ?_) (fun c6_ => ?_)
      · skip
        refine n_cW FS (nM_first  mS (by first | omega | assumption) (by first | omega | assumption) (by first | omega | assumption) (by first | omega | assumption)) (by first | decide | (intro k q; exact hE k (by revert q; revert k; decide))) (fun v7_ S8_ mS8_ FS8_ fS8_ qv7_ => ?_)
        refine n_rI (L := 40) mS8_ (by decide) rfl (by omega) (by omega) (fun x69_ x69_e x69_l x69_u => ?_)
        refine n_eq (fun c10_ => ?_) (fun c10_ => ?_)
        · skip
          have L11_ : (16 : Int32).toInt = 16 := rfl
          try have i12_ : ((16 : Int32) * a6).toInt = 16 * a6.toInt := i_mul (n := 16) rfl (by omega) (by omega)
          try have i13_ : (((16 : Int32) * a6) + a5).toInt = ((16 : Int32) * a6).toInt + a5.toInt := i_add (by omega) (by omega)
          refine n_wJ (L := 640) mS8_ FS8_ (by first | decide | exact hE _ (by decide) | simp) (by decide) (by omega) (by omega) (fun S14_ mS14_ FS14_ gS14_ hS14_ kS14_ => ?_)
          try have i16_ : (a6 + (1 : Int32)).toInt = a6.toInt + (1 : Int32).toInt := i_add (by omega) (by omega)
          refine n_letv (fun x815_ x815_v => ?_)
          have x815_t := congrArg Int32.toInt x815_v
          exact ih a1 a3 a5 x815_ S14_ mS14_ FS14_ (by first | omega | assumption) (by first | omega | assumption) (by first | omega | assumption) (by first | omega | assumption) (by first | omega | assumption) (by first | omega | assumption) (by omega)
        · skip
          have L17_ : (16 : Int32).toInt = 16 := rfl
          try have i18_ : ((16 : Int32) * a6).toInt = 16 * a6.toInt := i_mul (n := 16) rfl (by omega) (by omega)
          try have i19_ : (((16 : Int32) * a6) + a5).toInt = ((16 : Int32) * a6).toInt + a5.toInt := i_add (by omega) (by omega)
          refine n_wJ (L := 640) mS8_ FS8_ (by first | decide | exact hE _ (by decide) | simp) (by decide) (by omega) (by omega) (fun S20_ mS20_ FS20_ gS20_ hS20_ kS20_ => ?_)
          try have i22_ : (a6 + (1 : Int32)).toInt = a6.toInt + (1 : Int32).toInt := i_add (by omega) (by omega)
          refine n_letv (fun x1021_ x1021_v => ?_)
          have x1021_t := congrArg Int32.toInt x1021_v
          exact ih a1 a3 a5 x1021_ S20_ mS20_ FS20_ (by first | omega | assumption) (by first | omega | assumption) (by first | omega | assumption) (by first | omega | assumption) (by first | omega | assumption) (by first | omega | assumption) (by omega)
      · skip
        try have i24_ : (a6 + (1 : Int32)).toInt = a6.toInt + (1 : Int32).toInt := i_add (by omega) (by omega)
        refine n_letv (fun x323_ x323_v => ?_)
        have x323_t := congrArg Int32.toInt x323_v
        exact ih a1 a3 a5 x323_ S mS FS (by first | omega | assumption) (by first | omega | assumption) (by first | omega | assumption) (by first | omega | assumption) (by first | omega | assumption) (by first | omega | assumption) (by omega)
