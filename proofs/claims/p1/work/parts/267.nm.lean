-- gM_carryOut_388
set_option maxHeartbeats 4000000 in
theorem nM_carryOut_388 {R : Unit → MS → Prop} {E : List Nat} {S0 : MS} {K102 : Int32 → MS → Option (Unit × MS)} {a1 : Int32} {a4 : Int32} (hE : ∀ k ∈ [20], k ∈ E)  (hK102 : ∀ (k0_ : Int32) (S' : MS), MI S' → fM E S0 S' → k0_.toInt = a1.toInt + 1 → nJ R (K102 k0_ S')) : ∀ (n : Nat) (a5 : Int32) (S : MS), MI S → fM E S0 S → 0 ≤ a1.toInt → a1.toInt ≤ 19 → 0 ≤ a4.toInt → a4.toInt ≤ 639 → 0 ≤ a5.toInt → a5.toInt ≤ 16 → 16 - a5.toInt < (n : Int) → nJ R (gM_carryOut_388 K102 n a1 a4 a5 S) := by
  intro n
  induction n with
  | zero => intro a5 S mS FS p0_ p1_ p2_ p3_ p4_ p5_ m_; exfalso; omega
  | succ n ih =>
    intro a5 S mS FS p0_ p1_ p2_ p3_ p4_ p5_ m_
    unfold gM_carryOut_388
    have L1_ : (0 : Int32).toInt = 0 := rfl
    have L2_ : (1 : Int32).toInt = 1 := rfl
    refine n_rI (L := 640) mS (by decide) rfl (by omega) (by omega) (fun x13_ x13_e x13_l x13_u => ?_)
    refine n_le (fun c4_ => ?_) (fun c4_ => ?_)
    · skip
      try have i6_ : (a1 + (1 : Int32)).toInt = a1.toInt + (1 : Int32).toInt := i_add (by omega) (by omega)
      refine n_letv (fun x25_ x25_v => ?_)
      have x25_t := congrArg Int32.toInt x25_v
      exact hK102 _ _ mS FS (by first | omega | assumption)
    · skip
      have L7_ : (16 : Int32).toInt = 16 := rfl
      try have i8_ : ((16 : Int32) * a1).toInt = 16 * a1.toInt := i_mul (n := 16) rfl (by omega) (by omega)
      try have i9_ : (((16 : Int32) * a1) + a5).toInt = ((16 : Int32) * a1).toInt + a5.toInt := i_add (by omega) (by omega)
      refine n_rJ (L := 960) (by decide) (by omega) (by omega) (fun x310_ x310_e => ?_)
      try have i11_ : ((16 : Int32) * a4).toInt = 16 * a4.toInt := i_mul (n := 16) rfl (by omega) (by omega)
      try have i12_ : (((16 : Int32) * a4) + a5).toInt = ((16 : Int32) * a4).toInt + a5.toInt := i_add (by omega) (by omega)
      refine n_wJ (L := 10240) mS FS (by first | decide | exact hE _ (by decide) | simp) (by decide) (by omega) (by omega) (fun S13_ mS13_ FS13_ gS13_ hS13_ kS13_ => ?_)
      try have i15_ : (a5 + (1 : Int32)).toInt = a5.toInt + (1 : Int32).toInt := i_add (by omega) (by omega)
      refine n_letv (fun x514_ x514_v => ?_)
      have x514_t := congrArg Int32.toInt x514_v
      exact ih x514_ S13_ mS13_ FS13_ (by first | omega | assumption) (by first | omega | assumption) (by first | omega | assumption) (by first | omega | assumption) (by first | omega | assumption) (by first | omega | assumption) (by omega)

-- gM_carryOut_318
set_option maxHeartbeats 4000000 in
theorem nM_carryOut_318 {R : Unit → MS → Prop} {E : List Nat} {S0 : MS} {K102 : Int32 → MS → Option (Unit × MS)} {a1 : Int32} {a2 : Int32} {a4 : Int32} (hE : ∀ k ∈ [18, 20, 21], k ∈ E)  (hK102 : ∀ (k0_ : Int32) (S' : MS), MI S' → fM E S0 S' → k0_.toInt = a1.toInt + 1 → nJ R (K102 k0_ S')) : ∀ (n : Nat) (a5 : Int32) (S : MS), MI S → fM E S0 S → 0 ≤ a1.toInt → a1.toInt ≤ 19 → 0 ≤ a2.toInt → a2.toInt ≤ 39 → 0 ≤ a4.toInt → a4.toInt ≤ 639 → 0 ≤ a5.toInt → a5.toInt ≤ 40 → 40 - a5.toInt < (n : Int) → nJ R (gM_carryOut_318 K102 n a1 a2 a4 a5 S) := by
  intro n
  induction n with
  | zero => intro a5 S mS FS p0_ p1_ p2_ p3_ p4_ p5_ p6_ p7_ m_; exfalso; omega
  | succ n ih =>
    intro a5 S mS FS p0_ p1_ p2_ p3_ p4_ p5_ p6_ p7_ m_
    unfold gM_carryOut_318
    have L1_ : (0 : Int32).toInt = 0 := rfl
    have L2_ : (1 : Int32).toInt = 1 := rfl
    refine n_rI (L := 640) mS (by decide) rfl (by omega) (by omega) (fun x13_ x13_e x13_l x13_u => ?_)
    refine n_le (fun c4_ => ?_) (fun c4_ => ?_)
    · skip
      refine n_rI (L := 40) mS (by decide) rfl (by omega) (by omega) (fun x25_ x25_e x25_l x25_u => ?_)
      have L6_ : (6 : Int32).toInt = 6 := rfl
      refine n_eq (fun c7_ => ?_) (fun c7_ => ?_)
      · skip
        refine n_rI (L := 60) mS (by decide) rfl (by omega) (by omega) (fun x48_ x48_e x48_l x48_u => ?_)
        refine n_wI (L := 640) mS FS (by first | decide | exact hE _ (by decide) | simp) (by decide) (by decide) rfl (by omega) (by omega) (by omega) (by omega) (fun S9_ mS9_ FS9_ gS9_ hS9_ kS9_ => ?_)
        exact nM_carryOut_388  (by first | decide | (intro k q; exact hE k (by revert q; revert k; decide))) (fun k0_ S' m' F' c0_ => hK102 _ _ m' F' (by first | omega | assumption)) _ _ _ mS9_ FS9_ (by first | omega | assumption) (by first | omega | assumption) (by first | omega | assumption) (by first | omega | assumption) (by first | omega | assumption) (by first | omega | assumption) (by simp only [sm_fuel_eq]; omega)
      · skip
        try have i11_ : (a1 + (1 : Int32)).toInt = a1.toInt + (1 : Int32).toInt := i_add (by omega) (by omega)
        refine n_letv (fun x310_ x310_v => ?_)
        have x310_t := congrArg Int32.toInt x310_v
        exact hK102 _ _ mS FS (by first | omega | assumption)
    · skip
      have L12_ : (40 : Int32).toInt = 40 := rfl
      try have i13_ : ((40 : Int32) * a1).toInt = 40 * a1.toInt := i_mul (n := 40) rfl (by omega) (by omega)
      try have i14_ : (((40 : Int32) * a1) + a5).toInt = ((40 : Int32) * a1).toInt + a5.toInt := i_add (by omega) (by omega)
      refine n_rI (L := 2400) mS (by decide) rfl (by omega) (by omega) (fun x615_ x615_e x615_l x615_u => ?_)
      try have i16_ : ((40 : Int32) * a4).toInt = 40 * a4.toInt := i_mul (n := 40) rfl (by omega) (by omega)
      try have i17_ : (((40 : Int32) * a4) + a5).toInt = ((40 : Int32) * a4).toInt + a5.toInt := i_add (by omega) (by omega)
      refine n_wI (L := 25600) mS FS (by first | decide | exact hE _ (by decide) | simp) (by decide) (by decide) rfl (by omega) (by omega) (i_lo _) (i_hi _) (fun S18_ mS18_ FS18_ gS18_ hS18_ kS18_ => ?_)
      try have i20_ : (a5 + (1 : Int32)).toInt = a5.toInt + (1 : Int32).toInt := i_add (by omega) (by omega)
      refine n_letv (fun x819_ x819_v => ?_)
      have x819_t := congrArg Int32.toInt x819_v
      exact ih x819_ S18_ mS18_ FS18_ (by first | omega | assumption) (by first | omega | assumption) (by first | omega | assumption) (by first | omega | assumption) (by first | omega | assumption) (by first | omega | assumption) (by first | omega | assumption) (by first | omega | assumption) (by omega)

-- gM_find_2
set_option maxHeartbeats 4000000 in
theorem nM_find_2 {E : List Nat} {S0 : MS} (hE : ∀ k ∈ [36, 37, 38, 39, 40, 41, 42, 43, 47, 56, 57, 59, 60, 61, 62], k ∈ E) : ∀ (n : Nat) (a1 : Int32) (S : MS), MI S → fM E S0 S → 0 ≤ a1.toInt → a1.toInt ≤ 20 → 0 ≤ (S.1 49).toInt → 20 - a1.toInt < (n : Int) → nJ (NW E S0 (fun (r : Unit) (S' : MS) => True)) (gM_find_2 n a1 S) := by
  intro n
  induction n with
  | zero => intro a1 S mS FS p0_ p1_ p2_ m_; exfalso; omega
  | succ n ih =>
    intro a1 S mS FS p0_ p1_ p2_ m_
    unfold gM_find_2
    have L1_ : (0 : Int32).toInt = 0 := rfl
    have L2_ : (1 : Int32).toInt = 1 := rfl
    have r3_ := mi_f mS 46 rfl
    refine n_let ?_
    refine n_le (fun c4_ => ?_) (fun c4_ => ?_)
    · skip
      refine n_let ?_
      refine n_sI mS FS (by first | decide | exact hE _ (by decide) | simp) rfl (by omega) (by omega) (fun S5_ mS5_ FS5_ vS5_ gS5_ hS5_ => ?_)
      exact n_rW mS5_ FS5_ trivial
    · skip
      refine n_let ?_
      have L6_ : (160 : Int32).toInt = 160 := rfl
      refine n_eq (fun c7_ => ?_) (fun c7_ => ?_)
      · skip
        have L8_ : (20 : Int32).toInt = 20 := rfl
        try have i9_ : ((20 : Int32) + a1).toInt = (20 : Int32).toInt + a1.toInt := i_add (by omega) (by omega)
        have r10_ := mi_f mS 49 rfl
        refine n_cW FS (nM_get  mS (by first | omega | assumption) (by first | omega | assumption) (by first | omega | assumption) (by first | omega | assumption) (by first | omega | assumption)) (by first | decide | (intro k q; exact hE k (by revert q; revert k; decide))) (fun v11_ S12_ mS12_ FS12_ fS12_ qv11_ => ?_)
        have q13_ := congrArg Int32.toInt (fS12_.1 48 (by decide))
        have q14_ := congrArg Int32.toInt (fS12_.1 49 (by decide))
        have q15_ := congrArg Int32.toInt (fS12_.1 56 (by decide))
        unfold gM_find_41
        refine n_let ?_
        refine n_eq (fun c16_ => ?_) (fun c16_ => ?_)
        · skip
          refine n_rI (L := 60) mS12_ (by decide) rfl (by omega) (by omega) (fun x317_ x317_e x317_l x317_u => ?_)
          have L18_ : (127 : Int32).toInt = 127 := rfl
          refine n_le (fun c19_ => ?_) (fun c19_ => ?_)
          · skip
            try have i21_ : (a1 + (1 : Int32)).toInt = a1.toInt + (1 : Int32).toInt := i_add (by omega) (by omega)
            refine n_letv (fun x420_ x420_v => ?_)
            have x420_t := congrArg Int32.toInt x420_v
            have r22_ := mi_f mS12_ 49 rfl
            exact ih x420_ S12_ mS12_ FS12_ (by first | omega | assumption) (by first | omega | assumption) (by first | omega | assumption) (by omega)
          · skip
            refine n_let ?_
            refine n_eq (fun c23_ => ?_) (fun c23_ => ?_)
            · skip
              have L24_ : (2 : Int32).toInt = 2 := rfl
              refine n_sI mS12_ FS12_ (by first | decide | exact hE _ (by decide) | simp) rfl (i_lo _) (i_hi _) (fun S25_ mS25_ FS25_ vS25_ gS25_ hS25_ => ?_)
              have q26_ := congrArg Int32.toInt (gS25_ 49 (by decide))
              try have i27_ : (a1 + (1 : Int32)).toInt = a1.toInt + (1 : Int32).toInt := i_add (by omega) (by omega)
              refine n_sI mS25_ FS25_ (by first | decide | exact hE _ (by decide) | simp) rfl (i_lo _) (i_hi _) (fun S28_ mS28_ FS28_ vS28_ gS28_ hS28_ => ?_)
              have q29_ := congrArg Int32.toInt (gS28_ 49 (by decide))
              refine n_letv (fun x930_ x930_v => ?_)
              have x930_t := congrArg Int32.toInt x930_v
              have r31_ := mi_f mS28_ 49 rfl
              exact ih x930_ S28_ mS28_ FS28_ (by first | omega | assumption) (by first | omega | assumption) (by first | omega | assumption) (by omega)
            · skip
              try have i33_ : (a1 + (1 : Int32)).toInt = a1.toInt + (1 : Int32).toInt := i_add (by omega) (by omega)
              refine n_letv (fun x632_ x632_v => ?_)
              have x632_t := congrArg Int32.toInt x632_v
              have r34_ := mi_f mS12_ 49 rfl
              exact ih x632_ S12_ mS12_ FS12_ (by first | omega | assumption) (by first | omega | assumption) (by first | omega | assumption) (by omega)
        · skip
          try have i36_ : (a1 + (1 : Int32)).toInt = a1.toInt + (1 : Int32).toInt := i_add (by omega) (by omega)
          refine n_letv (fun x235_ x235_v => ?_)
          have x235_t := congrArg Int32.toInt x235_v
          have r37_ := mi_f mS12_ 49 rfl
          exact ih x235_ S12_ mS12_ FS12_ (by first | omega | assumption) (by first | omega | assumption) (by first | omega | assumption) (by omega)
      · skip
        have L38_ : (20 : Int32).toInt = 20 := rfl
        try have i39_ : ((20 : Int32) + a1).toInt = (20 : Int32).toInt + a1.toInt := i_add (by omega) (by omega)
        have r40_ := mi_f mS 49 rfl
        refine n_cW FS (nM_next  mS (by first | omega | assumption) (by first | omega | assumption) (by first | omega | assumption) (by first | omega | assumption) (by first | omega | assumption)) (by first | decide | (intro k q; exact hE k (by revert q; revert k; decide))) (fun v41_ S42_ mS42_ FS42_ fS42_ qv41_ => ?_)
        have q43_ := congrArg Int32.toInt (fS42_.1 48 (by decide))
        have q44_ := congrArg Int32.toInt (fS42_.1 49 (by decide))
        have q45_ := congrArg Int32.toInt (fS42_.1 56 (by decide))
        unfold gM_find_41
        refine n_let ?_
        refine n_eq (fun c46_ => ?_) (fun c46_ => ?_)
        · skip
          refine n_rI (L := 60) mS42_ (by decide) rfl (by omega) (by omega) (fun x347_ x347_e x347_l x347_u => ?_)
          have L48_ : (127 : Int32).toInt = 127 := rfl
          refine n_le (fun c49_ => ?_) (fun c49_ => ?_)
          · skip
            try have i51_ : (a1 + (1 : Int32)).toInt = a1.toInt + (1 : Int32).toInt := i_add (by omega) (by omega)
            refine n_letv (fun x450_ x450_v => ?_)
            have x450_t := congrArg Int32.toInt x450_v
            have r52_ := mi_f mS42_ 49 rfl
            exact ih x450_ S42_ mS42_ FS42_ (by first | omega | assumption) (by first | omega | assumption) (by first | omega | assumption) (by omega)
          · skip
            refine n_let ?_
            refine n_eq (fun c53_ => ?_) (fun c53_ => ?_)
            · skip
              have L54_ : (2 : Int32).toInt = 2 := rfl
              refine n_sI mS42_ FS42_ (by first | decide | exact hE _ (by decide) | simp) rfl (i_lo _) (i_hi _) (fun S55_ mS55_ FS55_ vS55_ gS55_ hS55_ => ?_)
              have q56_ := congrArg Int32.toInt (gS55_ 49 (by decide))
              try have i57_ : (a1 + (1 : Int32)).toInt = a1.toInt + (1 : Int32).toInt := i_add (by omega) (by omega)
              refine n_sI mS55_ FS55_ (by first | decide | exact hE _ (by decide) | simp) rfl (i_lo _) (i_hi _) (fun S58_ mS58_ FS58_ vS58_ gS58_ hS58_ => ?_)
              have q59_ := congrArg Int32.toInt (gS58_ 49 (by decide))
              refine n_letv (fun x960_ x960_v => ?_)
              have x960_t := congrArg Int32.toInt x960_v
              have r61_ := mi_f mS58_ 49 rfl
              exact ih x960_ S58_ mS58_ FS58_ (by first | omega | assumption) (by first | omega | assumption) (by first | omega | assumption) (by omega)
            · skip
              try have i63_ : (a1 + (1 : Int32)).toInt = a1.toInt + (1 : Int32).toInt := i_add (by omega) (by omega)
              refine n_letv (fun x662_ x662_v => ?_)
              have x662_t := congrArg Int32.toInt x662_v
              have r64_ := mi_f mS42_ 49 rfl
              exact ih x662_ S42_ mS42_ FS42_ (by first | omega | assumption) (by first | omega | assumption) (by first | omega | assumption) (by omega)
        · skip
          try have i66_ : (a1 + (1 : Int32)).toInt = a1.toInt + (1 : Int32).toInt := i_add (by omega) (by omega)
          refine n_letv (fun x265_ x265_v => ?_)
          have x265_t := congrArg Int32.toInt x265_v
          have r67_ := mi_f mS42_ 49 rfl
          exact ih x265_ S42_ mS42_ FS42_ (by first | omega | assumption) (by first | omega | assumption) (by first | omega | assumption) (by omega)

-- gM_find
set_option maxHeartbeats 4000000 in
theorem nM_find  {S : MS} (mS : MI S)  (p0_ : 0 ≤ (S.1 49).toInt) : nJ (NW [36, 37, 38, 39, 40, 41, 42, 43, 47, 56, 57, 59, 60, 61, 62] S (fun (r : Unit) (S' : MS) => True)) (gM_find  S) := by
  unfold gM_find
  have FS := fM_rf [36, 37, 38, 39, 40, 41, 42, 43, 47, 56, 57, 59, 60, 61, 62] S
  have L1_ : (0 : Int32).toInt = 0 := rfl
  have L2_ : (1 : Int32).toInt = 1 := rfl
  have r3_ := mi_f mS 49 rfl
  exact nM_find_2  (by first | decide | (intro k q; exact hE k (by revert q; revert k; decide))) _ _ _ mS FS (by first | omega | assumption) (by first | omega | assumption) (by first | omega | assumption) (by simp only [sm_fuel_eq]; omega)

-- gM_answer
set_option maxHeartbeats 4000000 in
theorem nM_answer {a1 : Int32} {S : MS} (mS : MI S)  : nJ (NW [0] S (fun (r : Int32) (S' : MS) => True)) (gM_answer a1 S) := by
  unfold gM_answer
  have FS := fM_rf [0] S
  have L1_ : (0 : Int32).toInt = 0 := rfl
  have L2_ : (1 : Int32).toInt = 1 := rfl
  refine n_sI mS FS (by first | decide | exact hE _ (by decide) | simp) rfl (i_lo _) (i_hi _) (fun S3_ mS3_ FS3_ vS3_ gS3_ hS3_ => ?_)
  have q4_ := congrArg Int32.toInt (gS3_ 65 (by decide))
  have r5_ := mi_f mS3_ 65 rfl
  refine n_let ?_
  have j6_ := Int32.toInt_toInt64 (a1)
  have L7_ : (0 : Int64).toInt = 0 := rfl
  try have i8_ : ((S3_.1 65) - (1 : Int32)).toInt = (S3_.1 65).toInt - (1 : Int32).toInt := i_sub (by omega) (by omega)
  have j9_ := Int32.toInt_toInt64 (((S3_.1 65) - (1 : Int32)))
  refine n_cP (nM_in  mS3_ ) (fun x310_ qx310_ => ?_)
  refine n_eq (fun c11_ => ?_) (fun c11_ => ?_)
  · skip
    exact n_rW mS3_ FS3_ trivial
  · skip
    refine n_rI (L := 2400) mS3_ (by decide) rfl (by omega) (by omega) (fun x512_ x512_e x512_l x512_u => ?_)
    exact n_rW mS3_ FS3_ trivial

-- gM_count
set_option maxHeartbeats 4000000 in
theorem nM_count {a1 : Int32} {S : MS} (mS : MI S)  : nJ (NW [0] S (fun (r : Int32) (S' : MS) => True)) (gM_count a1 S) := by
  unfold gM_count
  have FS := fM_rf [0] S
  have L1_ : (0 : Int32).toInt = 0 := rfl
  have L2_ : (1 : Int32).toInt = 1 := rfl
  refine n_sI mS FS (by first | decide | exact hE _ (by decide) | simp) rfl (i_lo _) (i_hi _) (fun S3_ mS3_ FS3_ vS3_ gS3_ hS3_ => ?_)
  have q4_ := congrArg Int32.toInt (gS3_ 8 (by decide))
  have q5_ := congrArg Int32.toInt (gS3_ 22 (by decide))
  have q6_ := congrArg Int32.toInt (gS3_ 28 (by decide))
  refine n_eq (fun c7_ => ?_) (fun c7_ => ?_)
  · skip
    have r8_ := mi_f mS3_ 8 rfl
    refine n_let ?_
    exact n_rW mS3_ FS3_ trivial
  · skip
    have j9_ := Int32.toInt_toInt64 (a1)
    have L10_ : (1 : Int64).toInt = 1 := rfl
    have L11_ : (7 : Int64).toInt = 7 := rfl
    refine n_cP (nM_in  mS3_ ) (fun x212_ qx212_ => ?_)
    refine n_eq (fun c13_ => ?_) (fun c13_ => ?_)
    · skip
      have L14_ : (8 : Int32).toInt = 8 := rfl
      refine n_eq (fun c15_ => ?_) (fun c15_ => ?_)
      · skip
        have r16_ := mi_f mS3_ 28 rfl
        refine n_let ?_
        exact n_rW mS3_ FS3_ trivial
      · skip
        have L17_ : (9 : Int32).toInt = 9 := rfl
        refine n_eq (fun c18_ => ?_) (fun c18_ => ?_)
        · skip
          have r19_ := mi_f mS3_ 22 rfl
          refine n_let ?_
          exact n_rW mS3_ FS3_ trivial
        · skip
          exact n_rW mS3_ FS3_ trivial
    · skip
      refine n_rI (L := 8) mS3_ (by decide) rfl (by omega) (by omega) (fun x620_ x620_e x620_l x620_u => ?_)
      exact n_rW mS3_ FS3_ trivial
