-- gM_many_72
set_option maxHeartbeats 4000000 in
theorem nM_many_72 {E : List Nat} {S0 : MS} (hE : ∀ k ∈ [36, 37, 38, 39, 40, 41, 42, 43, 47, 59, 60, 61, 62], k ∈ E) : ∀ (n : Nat) (a1 : Int32) (a2 : Int32) (a3 : Int32) (a4 : Int32) (S : MS), MI S → fM E S0 S → 0 ≤ a1.toInt → a1.toInt ≤ 20 → 0 ≤ a2.toInt → a2.toInt ≤ 20 → a1.toInt + a2.toInt ≤ 20 → a3.toInt = 0 ∨ a3.toInt = 1 → 0 ≤ a4.toInt → a4.toInt = 0 ∨ a3.toInt = 0 ∨ a2.toInt ≤ (S.1 47).toInt → 0 ≤ (S.1 49).toInt → 2 * (40 - (S.1 47).toInt) + a3.toInt < (n : Int) → nJ (NW E S0 (fun (r : Unit) (S' : MS) => True)) (gM_many_72 n a1 a2 a3 a4 S) := by
  intro n
  induction n with
  | zero => intro a1 a2 a3 a4 S mS FS p0_ p1_ p2_ p3_ p4_ p5_ p6_ p7_ p8_ m_; exfalso; have z47_ := mi_f mS 47 rfl; omega
  | succ n ih =>
    intro a1 a2 a3 a4 S mS FS p0_ p1_ p2_ p3_ p4_ p5_ p6_ p7_ p8_ m_
    have r1_ := mi_f mS 47 rfl
    unfold gM_many_72
    have L2_ : (0 : Int32).toInt = 0 := rfl
    have L3_ : (1 : Int32).toInt = 1 := rfl
    have r4_ := i_hi (S.1 55)
    refine n_let ?_
    refine n_le (fun c5_ => ?_) (fun c5_ => ?_)
    · skip
      exact n_rW mS FS trivial
    · skip
      refine n_eq (fun c6_ => ?_) (fun c6_ => ?_)
      · skip
        exact n_rW mS FS trivial
      · skip
        refine n_le (fun c7_ => ?_) (fun c7_ => ?_)
        · skip
          exact n_rW mS FS trivial
        · skip
          refine n_let ?_
          try have i9_ : ((S.1 47) - a2).toInt = (S.1 47).toInt - a2.toInt := i_sub (by omega) (by omega)
          refine n_letv (fun x38_ x38_v => ?_)
          have x38_t := congrArg Int32.toInt x38_v
          have r10_ := mi_f mS 49 rfl
          exact nM_many_103  (g := (S.1 47).toInt) (by first | decide | (intro k q; exact hE k (by revert q; revert k; decide))) (fun k0_ k1_ S' m' F' c0_ c1_ c2_ c3_ => by
              have L1' : (1 : Int32).toInt = 1 := rfl
              exact ih a1 a2 k0_ k1_ S' m' F' (by first | omega | assumption) (by first | omega | assumption) (by first | omega | assumption) (by first | omega | assumption) (by first | omega | assumption) (by first | omega | assumption) (by first | omega | assumption) (by first | omega | assumption) (by first | omega | assumption) (by omega)) _ _ _ _ _ mS FS (by first | omega | assumption) (by first | omega | assumption) (by first | omega | assumption) (by first | omega | assumption) (by first | omega | assumption) (by first | omega | assumption) (by first | omega | assumption) (by first | omega | assumption) (by first | omega | assumption) (by first | omega | assumption) (by first | omega | assumption) (by first | omega | assumption) (by first | omega | assumption) (by first | omega | assumption) (by simp only [sm_fuel_eq]; omega)

-- gM_many_46
set_option maxHeartbeats 4000000 in
theorem nM_many_46 {E : List Nat} {S0 : MS} (hE : ∀ k ∈ [36, 37, 38, 39, 40, 41, 42, 43, 47, 59, 60, 61, 62], k ∈ E) : ∀ (n : Nat) (a1 : Int32) (a2 : Int32) (a3 : Int32) (a4 : Int32) (S : MS), MI S → fM E S0 S → 0 ≤ a1.toInt → a1.toInt ≤ 20 → 0 ≤ a2.toInt → a2.toInt ≤ 20 → a1.toInt + a2.toInt ≤ 20 → a3.toInt = 0 ∨ a3.toInt = 1 → 0 ≤ a4.toInt → a4.toInt ≤ 20 → 0 ≤ (S.1 49).toInt → 20 - a4.toInt < (n : Int) → nJ (NW E S0 (fun (r : Unit) (S' : MS) => True)) (gM_many_46 n a1 a2 a3 a4 S) := by
  intro n
  induction n with
  | zero => intro a1 a2 a3 a4 S mS FS p0_ p1_ p2_ p3_ p4_ p5_ p6_ p7_ p8_ m_; exfalso; omega
  | succ n ih =>
    intro a1 a2 a3 a4 S mS FS p0_ p1_ p2_ p3_ p4_ p5_ p6_ p7_ p8_ m_
    unfold gM_many_46
    have L1_ : (0 : Int32).toInt = 0 := rfl
    have L2_ : (1 : Int32).toInt = 1 := rfl
    refine n_le (fun c3_ => ?_) (fun c3_ => ?_)
    · skip
      have r4_ := mi_f mS 47 rfl
      have r5_ := mi_f mS 49 rfl
      exact nM_many_72  (by first | decide | (intro k q; exact hE k (by revert q; revert k; decide))) _ _ _ _ _ _ mS FS (by first | omega | assumption) (by first | omega | assumption) (by first | omega | assumption) (by first | omega | assumption) (by first | omega | assumption) (by first | omega | assumption) (by first | omega | assumption) (by first | omega | assumption) (by first | omega | assumption) (by simp only [sm_fuel_eq]; omega)
    · skip
      refine n_eq (fun c6_ => ?_) (fun c6_ => ?_)
      · skip
        have r7_ := mi_f mS 47 rfl
        have r8_ := mi_f mS 49 rfl
        exact nM_many_72  (by first | decide | (intro k q; exact hE k (by revert q; revert k; decide))) _ _ _ _ _ _ mS FS (by first | omega | assumption) (by first | omega | assumption) (by first | omega | assumption) (by first | omega | assumption) (by first | omega | assumption) (by first | omega | assumption) (by first | omega | assumption) (by first | omega | assumption) (by first | omega | assumption) (by simp only [sm_fuel_eq]; omega)
      · skip
        have r9_ := mi_f mS 49 rfl
        refine n_cW FS (nM_oneMore  mS (by first | omega | assumption) (by first | omega | assumption) (by first | omega | assumption)) (by first | decide | (intro k q; exact hE k (by revert q; revert k; decide))) (fun x110_ S11_ mS11_ FS11_ fS11_ qx110_ => ?_)
        have q12_ := congrArg Int32.toInt (fS11_.1 49 (by decide))
        have r13_ := mi_f mS11_ 47 rfl
        try have i15_ : (a4 + (1 : Int32)).toInt = a4.toInt + (1 : Int32).toInt := i_add (by omega) (by omega)
        refine n_letv (fun x314_ x314_v => ?_)
        have x314_t := congrArg Int32.toInt x314_v
        have r16_ := mi_f mS11_ 49 rfl
        exact ih a1 a2 x110_ x314_ S11_ mS11_ FS11_ (by first | omega | assumption) (by first | omega | assumption) (by first | omega | assumption) (by first | omega | assumption) (by first | omega | assumption) (by first | omega | assumption) (by first | omega | assumption) (by first | omega | assumption) (by first | omega | assumption) (by omega)

-- gM_many
set_option maxHeartbeats 4000000 in
theorem nM_many  {S : MS} (mS : MI S)  (p0_ : 0 ≤ (S.1 49).toInt) : nJ (NW [36, 37, 38, 39, 40, 41, 42, 43, 47, 59, 60, 61, 62] S (fun (r : Unit) (S' : MS) => True)) (gM_many  S) := by
  unfold gM_many
  have FS := fM_rf [36, 37, 38, 39, 40, 41, 42, 43, 47, 59, 60, 61, 62] S
  have L1_ : (0 : Int32).toInt = 0 := rfl
  have L2_ : (1 : Int32).toInt = 1 := rfl
  refine n_let ?_
  refine n_le (fun c3_ => ?_) (fun c3_ => ?_)
  · skip
    refine n_let ?_
    have r4_ := mi_f mS 46 rfl
    refine n_let ?_
    refine n_le (fun c5_ => ?_) (fun c5_ => ?_)
    · skip
      refine n_let ?_
      unfold gM_many_33
      refine n_let ?_
      try have i7_ : ((S.1 46) - (S.1 54)).toInt = (S.1 46).toInt - (S.1 54).toInt := i_sub (by omega) (by omega)
      refine n_letv (fun x26_ x26_v => ?_)
      have x26_t := congrArg Int32.toInt x26_v
      have r8_ := mi_f mS 49 rfl
      exact nM_many_46  (by first | decide | (intro k q; exact hE k (by revert q; revert k; decide))) _ _ _ _ _ _ mS FS (by first | omega | assumption) (by first | omega | assumption) (by first | omega | assumption) (by first | omega | assumption) (by first | omega | assumption) (by first | omega | assumption) (by first | omega | assumption) (by first | omega | assumption) (by first | omega | assumption) (by simp only [sm_fuel_eq]; omega)
    · skip
      refine n_let ?_
      unfold gM_many_33
      refine n_let ?_
      try have i10_ : ((S.1 46) - (S.1 46)).toInt = (S.1 46).toInt - (S.1 46).toInt := i_sub (by omega) (by omega)
      refine n_letv (fun x29_ x29_v => ?_)
      have x29_t := congrArg Int32.toInt x29_v
      have r11_ := mi_f mS 49 rfl
      exact nM_many_46  (by first | decide | (intro k q; exact hE k (by revert q; revert k; decide))) _ _ _ _ _ _ mS FS (by first | omega | assumption) (by first | omega | assumption) (by first | omega | assumption) (by first | omega | assumption) (by first | omega | assumption) (by first | omega | assumption) (by first | omega | assumption) (by first | omega | assumption) (by first | omega | assumption) (by simp only [sm_fuel_eq]; omega)
  · skip
    unfold gM_many_33
    have r12_ := mi_f mS 46 rfl
    refine n_let ?_
    try have i14_ : ((S.1 46) - (0 : Int32)).toInt = (S.1 46).toInt - (0 : Int32).toInt := i_sub (by omega) (by omega)
    refine n_letv (fun x213_ x213_v => ?_)
    have x213_t := congrArg Int32.toInt x213_v
    have r15_ := mi_f mS 49 rfl
    exact nM_many_46  (by first | decide | (intro k q; exact hE k (by revert q; revert k; decide))) _ _ _ _ _ _ mS FS (by first | omega | assumption) (by first | omega | assumption) (by first | omega | assumption) (by first | omega | assumption) (by first | omega | assumption) (by first | omega | assumption) (by first | omega | assumption) (by first | omega | assumption) (by first | omega | assumption) (by simp only [sm_fuel_eq]; omega)

-- gM_fail
set_option maxHeartbeats 4000000 in
theorem nM_fail {a1 : Int32} {a2 : Int32} {S : MS} (mS : MI S)  (p0_ : a1.toInt ≠ 0) : nJ (NW [56, 57] S (fun (r : Unit) (S' : MS) => (S'.1 56).toInt ≠ 0)) (gM_fail a1 a2 S) := by
  unfold gM_fail
  have FS := fM_rf [56, 57] S
  have L1_ : (0 : Int32).toInt = 0 := rfl
  have L2_ : (1 : Int32).toInt = 1 := rfl
  refine n_let ?_
  refine n_eq (fun c3_ => ?_) (fun c3_ => ?_)
  · skip
    refine n_let ?_
    refine n_eq (fun c4_ => ?_) (fun c4_ => ?_)
    · skip
      refine n_sI mS FS (by first | decide | exact hE _ (by decide) | simp) rfl (i_lo _) (i_hi _) (fun S5_ mS5_ FS5_ vS5_ gS5_ hS5_ => ?_)
      have q6_ := congrArg Int32.toInt vS5_
      try have i7_ : (a2 + (1 : Int32)).toInt = a2.toInt + (1 : Int32).toInt := i_add (by omega) (by omega)
      refine n_sI mS5_ FS5_ (by first | decide | exact hE _ (by decide) | simp) rfl (i_lo _) (i_hi _) (fun S8_ mS8_ FS8_ vS8_ gS8_ hS8_ => ?_)
      have q9_ := congrArg Int32.toInt (gS8_ 56 (by decide))
      exact n_rW mS8_ FS8_ (by omega)
    · skip
      have L10_ : (13 : Int32).toInt = 13 := rfl
      refine n_eq (fun c11_ => ?_) (fun c11_ => ?_)
      · skip
        have L12_ : (5 : Int32).toInt = 5 := rfl
        refine n_sI mS FS (by first | decide | exact hE _ (by decide) | simp) rfl (i_lo _) (i_hi _) (fun S13_ mS13_ FS13_ vS13_ gS13_ hS13_ => ?_)
        have q14_ := congrArg Int32.toInt vS13_
        try have i15_ : (a2 + (1 : Int32)).toInt = a2.toInt + (1 : Int32).toInt := i_add (by omega) (by omega)
        refine n_sI mS13_ FS13_ (by first | decide | exact hE _ (by decide) | simp) rfl (i_lo _) (i_hi _) (fun S16_ mS16_ FS16_ vS16_ gS16_ hS16_ => ?_)
        have q17_ := congrArg Int32.toInt (gS16_ 56 (by decide))
        exact n_rW mS16_ FS16_ (by omega)
      · skip
        have L18_ : (6 : Int32).toInt = 6 := rfl
        refine n_eq (fun c19_ => ?_) (fun c19_ => ?_)
        · skip
          unfold gM_fail_48
          have L20_ : (2 : Int32).toInt = 2 := rfl
          refine n_sI mS FS (by first | decide | exact hE _ (by decide) | simp) rfl (i_lo _) (i_hi _) (fun S21_ mS21_ FS21_ vS21_ gS21_ hS21_ => ?_)
          have q22_ := congrArg Int32.toInt vS21_
          try have i23_ : (a2 + (1 : Int32)).toInt = a2.toInt + (1 : Int32).toInt := i_add (by omega) (by omega)
          refine n_sI mS21_ FS21_ (by first | decide | exact hE _ (by decide) | simp) rfl (i_lo _) (i_hi _) (fun S24_ mS24_ FS24_ vS24_ gS24_ hS24_ => ?_)
          have q25_ := congrArg Int32.toInt (gS24_ 56 (by decide))
          exact n_rW mS24_ FS24_ (by omega)
        · skip
          have L26_ : (17 : Int32).toInt = 17 := rfl
          refine n_eq (fun c27_ => ?_) (fun c27_ => ?_)
          · skip
            unfold gM_fail_48
            have L28_ : (2 : Int32).toInt = 2 := rfl
            refine n_sI mS FS (by first | decide | exact hE _ (by decide) | simp) rfl (i_lo _) (i_hi _) (fun S29_ mS29_ FS29_ vS29_ gS29_ hS29_ => ?_)
            have q30_ := congrArg Int32.toInt vS29_
            try have i31_ : (a2 + (1 : Int32)).toInt = a2.toInt + (1 : Int32).toInt := i_add (by omega) (by omega)
            refine n_sI mS29_ FS29_ (by first | decide | exact hE _ (by decide) | simp) rfl (i_lo _) (i_hi _) (fun S32_ mS32_ FS32_ vS32_ gS32_ hS32_ => ?_)
            have q33_ := congrArg Int32.toInt (gS32_ 56 (by decide))
            exact n_rW mS32_ FS32_ (by omega)
          · skip
            have L34_ : (18 : Int32).toInt = 18 := rfl
            refine n_eq (fun c35_ => ?_) (fun c35_ => ?_)
            · skip
              unfold gM_fail_48
              have L36_ : (2 : Int32).toInt = 2 := rfl
              refine n_sI mS FS (by first | decide | exact hE _ (by decide) | simp) rfl (i_lo _) (i_hi _) (fun S37_ mS37_ FS37_ vS37_ gS37_ hS37_ => ?_)
              have q38_ := congrArg Int32.toInt vS37_
              try have i39_ : (a2 + (1 : Int32)).toInt = a2.toInt + (1 : Int32).toInt := i_add (by omega) (by omega)
              refine n_sI mS37_ FS37_ (by first | decide | exact hE _ (by decide) | simp) rfl (i_lo _) (i_hi _) (fun S40_ mS40_ FS40_ vS40_ gS40_ hS40_ => ?_)
              have q41_ := congrArg Int32.toInt (gS40_ 56 (by decide))
              exact n_rW mS40_ FS40_ (by omega)
            · skip
              have L42_ : (3 : Int32).toInt = 3 := rfl
              refine n_sI mS FS (by first | decide | exact hE _ (by decide) | simp) rfl (i_lo _) (i_hi _) (fun S43_ mS43_ FS43_ vS43_ gS43_ hS43_ => ?_)
              have q44_ := congrArg Int32.toInt vS43_
              try have i45_ : (a2 + (1 : Int32)).toInt = a2.toInt + (1 : Int32).toInt := i_add (by omega) (by omega)
              refine n_sI mS43_ FS43_ (by first | decide | exact hE _ (by decide) | simp) rfl (i_lo _) (i_hi _) (fun S46_ mS46_ FS46_ vS46_ gS46_ hS46_ => ?_)
              have q47_ := congrArg Int32.toInt (gS46_ 56 (by decide))
              exact n_rW mS46_ FS46_ (by omega)
  · skip
    exact n_rW mS FS (by omega)

-- gM_isMaking
set_option maxHeartbeats 4000000 in
theorem nM_isMaking {a1 : Int32} {a2 : Int32} {a3 : Int64} {S : MS} (mS : MI S)  (p0_ : 0 ≤ a1.toInt) (p1_ : a1.toInt ≤ 59) : nJ (NP S (fun r : Int32 => r.toInt = 0 ∨ r.toInt = 1)) (gM_isMaking a1 a2 a3 S) := by
  unfold gM_isMaking
  have L1_ : (0 : Int32).toInt = 0 := rfl
  have L2_ : (1 : Int32).toInt = 1 := rfl
  refine n_rI (L := 60) mS (by decide) rfl (by omega) (by omega) (fun x13_ x13_e x13_l x13_u => ?_)
  have L4_ : (16 : Int32).toInt = 16 := rfl
  try have i5_ : ((16 : Int32) * a1).toInt = 16 * a1.toInt := i_mul (n := 16) rfl (by omega) (by omega)
  have L6_ : (2 : Int32).toInt = 2 := rfl
  refine n_cP (nM_objectOf (L_a1 := 960) mS (by decide) (by first | omega | assumption) (by first | omega | assumption) (by first | omega | assumption) (by first | omega | assumption) (by first | omega | assumption)) (fun x27_ qx27_ => ?_)
  refine n_lt (fun c8_ => ?_) (fun c8_ => ?_)
  · skip
    exact n_rP (by omega)
  · skip
    refine n_rI (L := 40) mS (by decide) rfl (by omega) (by omega) (fun x49_ x49_e x49_l x49_u => ?_)
    refine n_eq (fun c10_ => ?_) (fun c10_ => ?_)
    · skip
      exact n_rP (by omega)
    · skip
      refine n_rI (L := 40) mS (by decide) rfl (by omega) (by omega) (fun x511_ x511_e x511_l x511_u => ?_)
      refine n_eq (fun c12_ => ?_) (fun c12_ => ?_)
      · skip
        refine n_rI (L := 60) mS (by decide) rfl (by omega) (by omega) (fun x613_ x613_e x613_l x613_u => ?_)
        have q14_ : x613_.toInt = x13_.toInt := by rw [x613_e, x13_e]
        refine n_rI (L := 40) mS (by decide) rfl (by omega) (by omega) (fun x715_ x715_e x715_l x715_u => ?_)
        try have i16_ : (x715_ + (1 : Int32)).toInt = x715_.toInt + (1 : Int32).toInt := i_add (by omega) (by omega)
        refine n_eq (fun c17_ => ?_) (fun c17_ => ?_)
        · skip
          refine n_rI (L := 40) mS (by decide) rfl (by omega) (by omega) (fun x818_ x818_e x818_l x818_u => ?_)
          have q19_ : x818_.toInt = x715_.toInt := by rw [x818_e, x715_e]
          try have i20_ : (((16 : Int32) * a1) + x818_).toInt = ((16 : Int32) * a1).toInt + x818_.toInt := i_add (by omega) (by omega)
          refine n_rJ (L := 960) (by decide) (by omega) (by omega) (fun x921_ x921_e => ?_)
          refine n_l0 (fun c22_ => ?_) (fun c22_ => ?_)
          · skip
            refine n_rI (L := 60) mS (by decide) rfl (by omega) (by omega) (fun x1023_ x1023_e x1023_l x1023_u => ?_)
            refine n_eq (fun c24_ => ?_) (fun c24_ => ?_)
            · skip
              refine n_rJ (L := 60) (by decide) (by omega) (by omega) (fun x1125_ x1125_e => ?_)
              have L26_ : (4 : Int64).toInt = 4 := rfl
              have L27_ : (5 : Int64).toInt = 5 := rfl
              refine n_cP (nM_in  mS ) (fun x1228_ qx1228_ => ?_)
              refine n_eq (fun c29_ => ?_) (fun c29_ => ?_)
              · skip
                exact n_rP (by omega)
              · skip
                exact n_rP (by omega)
            · skip
              exact n_rP (by omega)
          · skip
            exact n_rP (by omega)
        · skip
          exact n_rP (by omega)
      · skip
        exact n_rP (by omega)
