-- gM_readName_23
set_option maxHeartbeats 4000000 in
theorem nM_readName_23 {E : List Nat} {S0 : MS} (hE : ∀ k ∈ [44, 45], k ∈ E) : ∀ (n : Nat) (a1 : Int32) (a2 : Nat) (a3 : Int32) (a4 : Int32) (S : MS), MI S → fM E S0 S → rowL a2 1 960 → a2 ∈ E → 0 ≤ a1.toInt → a1.toInt ≤ 1200 → 0 ≤ a3.toInt → a3.toInt ≤ 944 → 0 ≤ a4.toInt → a4.toInt ≤ 16 → 4 * (1200 - (S.1 44).toInt) + 3 - (S.1 45).toInt < (n : Int) → nJ (NW E S0 (fun (r : Int32) (S' : MS) => 0 ≤ r.toInt ∧ r.toInt ≤ 16)) (gM_readName_23 n a1 a2 a3 a4 S) := by
  intro n
  induction n with
  | zero => intro a1 a2 a3 a4 S mS FS hr_a2 he_a2 p0_ p1_ p2_ p3_ p4_ p5_ m_; exfalso; have z44_ := mi_f mS 44 rfl; have z45_ := mi_f mS 45 rfl; omega
  | succ n ih =>
    intro a1 a2 a3 a4 S mS FS hr_a2 he_a2 p0_ p1_ p2_ p3_ p4_ p5_ m_
    have r1_ := mi_f mS 44 rfl
    have r2_ := mi_f mS 45 rfl
    unfold gM_readName_23
    have L3_ : (0 : Int32).toInt = 0 := rfl
    have L4_ : (1 : Int32).toInt = 1 := rfl
    refine n_let ?_
    refine n_eq (fun c5_ => ?_) (fun c5_ => ?_)
    · skip
      refine n_let ?_
      refine n_le (fun c6_ => ?_) (fun c6_ => ?_)
      · skip
        exact n_rW mS FS (by omega)
      · skip
        refine n_cW FS (nM_octet  mS (by first | omega | assumption) (by first | omega | assumption)) (by first | decide | (intro k q; exact hE k (by revert q; revert k; decide))) (fun x37_ S8_ mS8_ FS8_ fS8_ qx37_ => ?_)
        have r9_ := mi_f mS8_ 44 rfl
        have r10_ := mi_f mS8_ 45 rfl
        refine n_let ?_
        refine n_eq (fun c11_ => ?_) (fun c11_ => ?_)
        · skip
          have L12_ : (128 : Int32).toInt = 128 := rfl
          refine n_eq (fun c13_ => ?_) (fun c13_ => ?_)
          · skip
            refine n_sI mS8_ FS8_ (by first | decide | exact hE _ (by decide) | simp) rfl (by omega) (by omega) (fun S14_ mS14_ FS14_ vS14_ gS14_ hS14_ => ?_)
            have q15_ := congrArg Int32.toInt (gS14_ 44 (by decide))
            have q16_ := congrArg Int32.toInt vS14_
            have L17_ : (0 : Int64).toInt = 0 := rfl
            have r18_ := mi_f mS14_ 44 rfl
            have r19_ := mi_f mS14_ 45 rfl
            exact nM_readName_75  (g := 4 * (1200 - (S.1 44).toInt) + 3 - (S.1 45).toInt) (by first | (intro k q; simp at q ⊢; omega) | simp_all) hr_a2 he_a2 (fun k0_ S' m' F' c0_ c1_ c2_ => by
                have L1' : (1 : Int32).toInt = 1 := rfl
                exact ih a1 a2 a3 k0_ S' m' F' hr_a2 he_a2 (by first | omega | assumption) (by first | omega | assumption) (by first | omega | assumption) (by first | omega | assumption) (by first | omega | assumption) (by first | omega | assumption) (by omega)) _ _ _ _ mS14_ FS14_ (by first | omega | assumption) (by first | omega | assumption) (by first | omega | assumption) (by first | omega | assumption) (by first | omega | assumption) (by first | omega | assumption) (by first | omega | assumption) (by first | omega | assumption) (by first | omega | assumption) (by simp only [sm_fuel_eq]; omega)
          · skip
            refine n_let ?_
            refine n_sI mS8_ FS8_ (by first | decide | exact hE _ (by decide) | simp) rfl (by omega) (by omega) (fun S20_ mS20_ FS20_ vS20_ gS20_ hS20_ => ?_)
            have q21_ := congrArg Int32.toInt (gS20_ 44 (by decide))
            have q22_ := congrArg Int32.toInt vS20_
            have L23_ : (0 : Int64).toInt = 0 := rfl
            have r24_ := mi_f mS20_ 44 rfl
            have r25_ := mi_f mS20_ 45 rfl
            exact nM_readName_75  (g := 4 * (1200 - (S.1 44).toInt) + 3 - (S.1 45).toInt) (by first | (intro k q; simp at q ⊢; omega) | simp_all) hr_a2 he_a2 (fun k0_ S' m' F' c0_ c1_ c2_ => by
                have L1' : (1 : Int32).toInt = 1 := rfl
                exact ih a1 a2 a3 k0_ S' m' F' hr_a2 he_a2 (by first | omega | assumption) (by first | omega | assumption) (by first | omega | assumption) (by first | omega | assumption) (by first | omega | assumption) (by first | omega | assumption) (by omega)) _ _ _ _ mS20_ FS20_ (by first | omega | assumption) (by first | omega | assumption) (by first | omega | assumption) (by first | omega | assumption) (by first | omega | assumption) (by first | omega | assumption) (by first | omega | assumption) (by first | omega | assumption) (by first | omega | assumption) (by simp only [sm_fuel_eq]; omega)
        · skip
          refine n_let ?_
          refine n_sI mS8_ FS8_ (by first | decide | exact hE _ (by decide) | simp) rfl (by omega) (by omega) (fun S26_ mS26_ FS26_ vS26_ gS26_ hS26_ => ?_)
          have q27_ := congrArg Int32.toInt (gS26_ 44 (by decide))
          have q28_ := congrArg Int32.toInt vS26_
          have L29_ : (0 : Int64).toInt = 0 := rfl
          have r30_ := mi_f mS26_ 44 rfl
          have r31_ := mi_f mS26_ 45 rfl
          exact nM_readName_75  (g := 4 * (1200 - (S.1 44).toInt) + 3 - (S.1 45).toInt) (by first | (intro k q; simp at q ⊢; omega) | simp_all) hr_a2 he_a2 (fun k0_ S' m' F' c0_ c1_ c2_ => by
              have L1' : (1 : Int32).toInt = 1 := rfl
              exact ih a1 a2 a3 k0_ S' m' F' hr_a2 he_a2 (by first | omega | assumption) (by first | omega | assumption) (by first | omega | assumption) (by first | omega | assumption) (by first | omega | assumption) (by first | omega | assumption) (by omega)) _ _ _ _ mS26_ FS26_ (by first | omega | assumption) (by first | omega | assumption) (by first | omega | assumption) (by first | omega | assumption) (by first | omega | assumption) (by first | omega | assumption) (by first | omega | assumption) (by first | omega | assumption) (by first | omega | assumption) (by simp only [sm_fuel_eq]; omega)
    · skip
      exact n_rW mS FS (by omega)

-- gM_readName
set_option maxHeartbeats 4000000 in
theorem nM_readName {a1 : Int32} {a2 : Nat} {a3 : Int32} {S : MS} (mS : MI S) (hr_a2 : rowL a2 1 960) (he_a2 : a2 ∈ [44, 45, a2]) (p0_ : 0 ≤ a1.toInt) (p1_ : a1.toInt ≤ 1200) (p2_ : 0 ≤ a3.toInt) (p3_ : a3.toInt ≤ 944) : nJ (NW [44, 45, a2] S (fun (r : Int32) (S' : MS) => 0 ≤ r.toInt ∧ r.toInt ≤ 16)) (gM_readName a1 a2 a3 S) := by
  unfold gM_readName
  have FS := fM_rf [44, 45, a2] S
  have L1_ : (0 : Int32).toInt = 0 := rfl
  have L2_ : (1 : Int32).toInt = 1 := rfl
  have r3_ := mi_f mS 45 rfl
  refine n_let ?_
  refine n_eq (fun c4_ => ?_) (fun c4_ => ?_)
  · skip
    have r5_ := mi_f mS 44 rfl
    refine n_let ?_
    refine n_eq (fun c6_ => ?_) (fun c6_ => ?_)
    · skip
      refine n_sI mS FS (by first | decide | exact hE _ (by decide) | simp) rfl (by omega) (by omega) (fun S7_ mS7_ FS7_ vS7_ gS7_ hS7_ => ?_)
      have q8_ := congrArg Int32.toInt (gS7_ 44 (by decide))
      have q9_ := congrArg Int32.toInt vS7_
      have r10_ := mi_f mS7_ 44 rfl
      have r11_ := mi_f mS7_ 45 rfl
      exact nM_readName_23  (by first | (intro k q; simp at q ⊢; omega) | simp_all) _ _ _ _ _ _ mS7_ FS7_ hr_a2 he_a2 (by first | omega | assumption) (by first | omega | assumption) (by first | omega | assumption) (by first | omega | assumption) (by first | omega | assumption) (by first | omega | assumption) (by simp only [sm_fuel_eq]; omega)
    · skip
      exact nM_readName_23  (by first | (intro k q; simp at q ⊢; omega) | simp_all) _ _ _ _ _ _ mS FS hr_a2 he_a2 (by first | omega | assumption) (by first | omega | assumption) (by first | omega | assumption) (by first | omega | assumption) (by first | omega | assumption) (by first | omega | assumption) (by simp only [sm_fuel_eq]; omega)
  · skip
    have r12_ := mi_f mS 44 rfl
    exact nM_readName_23  (by first | (intro k q; simp at q ⊢; omega) | simp_all) _ _ _ _ _ _ mS FS hr_a2 he_a2 (by first | omega | assumption) (by first | omega | assumption) (by first | omega | assumption) (by first | omega | assumption) (by first | omega | assumption) (by first | omega | assumption) (by simp only [sm_fuel_eq]; omega)

-- gM_readValue_84
set_option maxHeartbeats 4000000 in
theorem nM_readValue_84 {E : List Nat} {S0 : MS} (hE : ∀ k ∈ [40, 41, 44], k ∈ E) : ∀ (n : Nat) (a1 : Int32) (a4 : Int32) (a5 : Int32) (a6 : Int32) (S : MS), MI S → fM E S0 S → 0 ≤ a1.toInt → a1.toInt ≤ 19 → 0 ≤ a4.toInt → a4.toInt ≤ 1200 → 0 ≤ a5.toInt → a5.toInt ≤ 40 → (S.1 44).toInt + a5.toInt = a4.toInt → 0 ≤ a6.toInt → a6.toInt ≤ 40 → 40 - a6.toInt < (n : Int) → nJ (NW E S0 (fun (r : Unit) (S' : MS) => True)) (gM_readValue_84 n a1 a4 a5 a6 S) := by
  intro n
  induction n with
  | zero => intro a1 a4 a5 a6 S mS FS p0_ p1_ p2_ p3_ p4_ p5_ p6_ p7_ p8_ m_; exfalso; omega
  | succ n ih =>
    intro a1 a4 a5 a6 S mS FS p0_ p1_ p2_ p3_ p4_ p5_ p6_ p7_ p8_ m_
    unfold gM_readValue_84
    have L1_ : (0 : Int32).toInt = 0 := rfl
    have L2_ : (1 : Int32).toInt = 1 := rfl
    refine n_le (fun c3_ => ?_) (fun c3_ => ?_)
    · skip
      refine n_wI (L := 60) mS FS (by first | decide | exact hE _ (by decide) | simp) (by decide) (by decide) rfl (by omega) (by omega) (by omega) (by omega) (fun S4_ mS4_ FS4_ gS4_ hS4_ kS4_ => ?_)
      refine n_sI mS4_ FS4_ (by first | decide | exact hE _ (by decide) | simp) rfl (by omega) (by omega) (fun S5_ mS5_ FS5_ vS5_ gS5_ hS5_ => ?_)
      exact n_rW mS5_ FS5_ trivial
    · skip
      have r6_ := mi_f mS 44 rfl
      refine n_let ?_
      try have i7_ : ((S.1 44) + a6).toInt = (S.1 44).toInt + a6.toInt := i_add (by omega) (by omega)
      refine n_rI (L := 1200) mS (by decide) rfl (by omega) (by omega) (fun x48_ x48_e x48_l x48_u => ?_)
      have L9_ : (40 : Int32).toInt = 40 := rfl
      try have i10_ : ((40 : Int32) * a1).toInt = 40 * a1.toInt := i_mul (n := 40) rfl (by omega) (by omega)
      try have i11_ : (((40 : Int32) * a1) + a6).toInt = ((40 : Int32) * a1).toInt + a6.toInt := i_add (by omega) (by omega)
      refine n_wI (L := 2400) mS FS (by first | decide | exact hE _ (by decide) | simp) (by decide) (by decide) rfl (by omega) (by omega) (i_lo _) (i_hi _) (fun S12_ mS12_ FS12_ gS12_ hS12_ kS12_ => ?_)
      have q13_ := congrArg Int32.toInt (congrFun gS12_ 44)
      try have i15_ : (a6 + (1 : Int32)).toInt = a6.toInt + (1 : Int32).toInt := i_add (by omega) (by omega)
      refine n_letv (fun x614_ x614_v => ?_)
      have x614_t := congrArg Int32.toInt x614_v
      have r16_ := mi_f mS12_ 44 rfl
      exact ih a1 a4 a5 x614_ S12_ mS12_ FS12_ (by first | omega | assumption) (by first | omega | assumption) (by first | omega | assumption) (by first | omega | assumption) (by first | omega | assumption) (by first | omega | assumption) (by first | omega | assumption) (by first | omega | assumption) (by first | omega | assumption) (by omega)

-- gM_readValue_213
set_option maxHeartbeats 4000000 in
theorem nM_readValue_213 {E : List Nat} {S0 : MS} (hE : ∀ k ∈ [39, 44, 45], k ∈ E) : ∀ (n : Nat) (a1 : Int32) (a4 : Int32) (a6 : Int64) (a8 : Int32) (S : MS), MI S → fM E S0 S → 0 ≤ a1.toInt → a1.toInt ≤ 19 → 0 ≤ a4.toInt → a4.toInt ≤ 1200 → 0 ≤ a8.toInt → a8.toInt ≤ 4 → 4 - a8.toInt < (n : Int) → nJ (NW E S0 (fun (r : Unit) (S' : MS) => True)) (gM_readValue_213 n a1 a4 a6 a8 S) := by
  intro n
  induction n with
  | zero => intro a1 a4 a6 a8 S mS FS p0_ p1_ p2_ p3_ p4_ p5_ m_; exfalso; omega
  | succ n ih =>
    intro a1 a4 a6 a8 S mS FS p0_ p1_ p2_ p3_ p4_ p5_ m_
    unfold gM_readValue_213
    have L1_ : (0 : Int32).toInt = 0 := rfl
    have L2_ : (1 : Int32).toInt = 1 := rfl
    have L3_ : (4 : Int32).toInt = 4 := rfl
    refine n_le (fun c4_ => ?_) (fun c4_ => ?_)
    · skip
      refine n_wJ (L := 60) mS FS (by first | decide | exact hE _ (by decide) | simp) (by decide) (by omega) (by omega) (fun S5_ mS5_ FS5_ gS5_ hS5_ kS5_ => ?_)
      exact n_rW mS5_ FS5_ trivial
    · skip
      refine n_cW FS (nM_octet  mS (by first | omega | assumption) (by first | omega | assumption)) (by first | decide | (intro k q; exact hE k (by revert q; revert k; decide))) (fun x26_ S7_ mS7_ FS7_ fS7_ qx26_ => ?_)
      have r8_ := mi_f mS7_ 44 rfl
      have r9_ := mi_f mS7_ 45 rfl
      refine n_let ?_
      try have i11_ : (a8 + (1 : Int32)).toInt = a8.toInt + (1 : Int32).toInt := i_add (by omega) (by omega)
      refine n_letv (fun x510_ x510_v => ?_)
      have x510_t := congrArg Int32.toInt x510_v
      exact ih a1 a4 (((a6 <<< ((8 : Int32).toInt64 &&& 63)) ||| (x26_.toInt64))) x510_ S7_ mS7_ FS7_ (by first | omega | assumption) (by first | omega | assumption) (by first | omega | assumption) (by first | omega | assumption) (by first | omega | assumption) (by first | omega | assumption) (by omega)

-- gM_readValue
set_option maxHeartbeats 4000000 in
theorem nM_readValue {a1 : Int32} {a2 : Int32} {S : MS} (mS : MI S)  (p0_ : 0 ≤ a1.toInt) (p1_ : a1.toInt ≤ 19) (p2_ : 0 ≤ a2.toInt) (p3_ : a2.toInt ≤ 1200) : nJ (NW [38, 39, 40, 41, 42, 43, 44, 45, 58] S (fun (r : Unit) (S' : MS) => True)) (gM_readValue a1 a2 S) := by
  unfold gM_readValue
  have FS := fM_rf [38, 39, 40, 41, 42, 43, 44, 45, 58] S
  have L1_ : (0 : Int32).toInt = 0 := rfl
  have L2_ : (1 : Int32).toInt = 1 := rfl
  refine n_cW FS (nM_octet  mS (by first | omega | assumption) (by first | omega | assumption)) (by first | decide | (intro k q; exact hE k (by revert q; revert k; decide))) (fun x13_ S4_ mS4_ FS4_ fS4_ qx13_ => ?_)
  have q5_ := congrArg Int32.toInt (fS4_.1 58 (by decide))
  have r6_ := mi_f mS4_ 44 rfl
  have r7_ := mi_f mS4_ 45 rfl
  refine n_let ?_
  refine n_eq (fun c8_ => ?_) (fun c8_ => ?_)
  · skip
    have L9_ : (5 : Int32).toInt = 5 := rfl
    refine n_eq (fun c10_ => ?_) (fun c10_ => ?_)
    · skip
      unfold gM_readValue_32
      refine n_cW FS4_ (nM_size  mS4_ (by first | omega | assumption) (by first | omega | assumption)) (by first | decide | (intro k q; exact hE k (by revert q; revert k; decide))) (fun x111_ S12_ mS12_ FS12_ fS12_ qx111_ => ?_)
      have q13_ := congrArg Int32.toInt (fS12_.1 58 (by decide))
      have r14_ := mi_f mS12_ 44 rfl
      have r15_ := mi_f mS12_ 45 rfl
      refine n_let ?_
      refine n_eq (fun c16_ => ?_) (fun c16_ => ?_)
      · skip
        refine n_wI (L := 60) mS12_ FS12_ (by first | decide | exact hE _ (by decide) | simp) (by decide) (by decide) rfl (by omega) (by omega) (i_lo _) (i_hi _) (fun S17_ mS17_ FS17_ gS17_ hS17_ kS17_ => ?_)
        have q18_ := congrArg Int32.toInt (congrFun gS17_ 44)
        have q19_ := congrArg Int32.toInt (congrFun gS17_ 45)
        have q20_ := congrArg Int32.toInt (congrFun gS17_ 58)
        have r21_ := mi_f mS17_ 44 rfl
        refine n_let ?_
        try have i23_ : (x111_ - (S17_.1 44)).toInt = x111_.toInt - (S17_.1 44).toInt := i_sub (by omega) (by omega)
        refine n_letv (fun x622_ x622_v => ?_)
        have x622_t := congrArg Int32.toInt x622_v
        have L24_ : (4 : Int32).toInt = 4 := rfl
        refine n_eq (fun c25_ => ?_) (fun c25_ => ?_)
        · skip
          have L26_ : (40 : Int32).toInt = 40 := rfl
          refine n_le (fun c27_ => ?_) (fun c27_ => ?_)
          · skip
            exact nM_readValue_84  (by first | decide | (intro k q; exact hE k (by revert q; revert k; decide))) _ _ _ _ _ _ mS17_ FS17_ (by first | omega | assumption) (by first | omega | assumption) (by first | omega | assumption) (by first | omega | assumption) (by first | omega | assumption) (by first | omega | assumption) (by first | omega | assumption) (by first | omega | assumption) (by first | omega | assumption) (by simp only [sm_fuel_eq]; omega)
          · skip
            refine n_sI mS17_ FS17_ (by first | decide | exact hE _ (by decide) | simp) rfl (by omega) (by omega) (fun S28_ mS28_ FS28_ vS28_ gS28_ hS28_ => ?_)
            exact n_rW mS28_ FS28_ trivial
        · skip
          refine n_eq (fun c29_ => ?_) (fun c29_ => ?_)
          · skip
            refine n_eq (fun c30_ => ?_) (fun c30_ => ?_)
            · skip
              refine n_sI mS17_ FS17_ (by first | decide | exact hE _ (by decide) | simp) rfl (by omega) (by omega) (fun S31_ mS31_ FS31_ vS31_ gS31_ hS31_ => ?_)
              exact n_rW mS31_ FS31_ trivial
            · skip
              refine n_sI mS17_ FS17_ (by first | decide | exact hE _ (by decide) | simp) rfl (by omega) (by omega) (fun S32_ mS32_ FS32_ vS32_ gS32_ hS32_ => ?_)
              exact n_rW mS32_ FS32_ trivial
          · skip
            have L33_ : (6 : Int32).toInt = 6 := rfl
            refine n_eq (fun c34_ => ?_) (fun c34_ => ?_)
            · skip
              have L35_ : (16 : Int32).toInt = 16 := rfl
              try have i36_ : ((16 : Int32) * a1).toInt = 16 * a1.toInt := i_mul (n := 16) rfl (by omega) (by omega)
              refine n_cW FS17_ (nM_readName  mS17_ (by decide) (by first | decide | exact hE _ (by decide)) (by first | omega | assumption) (by first | omega | assumption) (by first | omega | assumption) (by first | omega | assumption)) (by first | decide | (intro k q; exact hE k (by revert q; revert k; decide))) (fun x1737_ S38_ mS38_ FS38_ fS38_ qx1737_ => ?_)
              refine n_wI (L := 60) mS38_ FS38_ (by first | decide | exact hE _ (by decide) | simp) (by decide) (by decide) rfl (by omega) (by omega) (by omega) (by omega) (fun S39_ mS39_ FS39_ gS39_ hS39_ kS39_ => ?_)
              exact n_rW mS39_ FS39_ trivial
            · skip
              have L40_ : (64 : Int32).toInt = 64 := rfl
              refine n_eq (fun c41_ => ?_) (fun c41_ => ?_)
              · skip
                refine n_eq (fun c42_ => ?_) (fun c42_ => ?_)
                · skip
                  have L43_ : (0 : Int64).toInt = 0 := rfl
                  exact nM_readValue_213  (by first | decide | (intro k q; exact hE k (by revert q; revert k; decide))) _ _ _ _ _ _ mS17_ FS17_ (by first | omega | assumption) (by first | omega | assumption) (by first | omega | assumption) (by first | omega | assumption) (by first | omega | assumption) (by first | omega | assumption) (by simp only [sm_fuel_eq]; omega)
                · skip
                  refine n_sI mS17_ FS17_ (by first | decide | exact hE _ (by decide) | simp) rfl (by omega) (by omega) (fun S44_ mS44_ FS44_ vS44_ gS44_ hS44_ => ?_)
                  exact n_rW mS44_ FS44_ trivial
              · skip
                refine n_cW FS17_ (nM_read  mS17_ (by first | omega | assumption) (by first | omega | assumption)) (by first | decide | (intro k q; exact hE k (by revert q; revert k; decide))) (fun x745_ S46_ mS46_ FS46_ fS46_ qx745_ => ?_)
                have L47_ : (2 : Int32).toInt = 2 := rfl
                refine n_eq (fun c48_ => ?_) (fun c48_ => ?_)
                · skip
                  have r49_ := mi_f mS46_ 58 rfl
                  refine n_let ?_
                  refine n_eq (fun c50_ => ?_) (fun c50_ => ?_)
                  · skip
                    have L51_ : (-2147483648 : Int64).toInt = -2147483648 := rfl
                    have L52_ : (2147483647 : Int64).toInt = 2147483647 := rfl
                    refine n_cP (nM_in  mS46_ ) (fun x1453_ qx1453_ => ?_)
                    refine n_eq (fun c54_ => ?_) (fun c54_ => ?_)
                    · skip
                      unfold gM_readValue_345
                      have r55_ := mi_f mS46_ 45 rfl
                      refine n_let ?_
                      refine n_eq (fun c56_ => ?_) (fun c56_ => ?_)
                      · skip
                        rw [if_pos (by decide)]
                        refine n_sI mS46_ FS46_ (by first | decide | exact hE _ (by decide) | simp) rfl (by omega) (by omega) (fun S57_ mS57_ FS57_ vS57_ gS57_ hS57_ => ?_)
                        refine n_wJ (L := 60) mS57_ FS57_ (by first | decide | exact hE _ (by decide) | simp) (by decide) (by omega) (by omega) (fun S58_ mS58_ FS58_ gS58_ hS58_ kS58_ => ?_)
                        exact n_rW mS58_ FS58_ trivial
                      · skip
                        unfold gM_readValue_364
                        refine n_let ?_
                        refine n_sI mS46_ FS46_ (by first | decide | exact hE _ (by decide) | simp) rfl (by omega) (by omega) (fun S59_ mS59_ FS59_ vS59_ gS59_ hS59_ => ?_)
                        refine n_wJ (L := 60) mS59_ FS59_ (by first | decide | exact hE _ (by decide) | simp) (by decide) (by omega) (by omega) (fun S60_ mS60_ FS60_ gS60_ hS60_ kS60_ => ?_)
                        exact n_rW mS60_ FS60_ trivial
                    · skip
                      unfold gM_readValue_345
                      have r61_ := mi_f mS46_ 45 rfl
                      refine n_let ?_
                      refine n_eq (fun c62_ => ?_) (fun c62_ => ?_)
                      · skip
                        rw [if_neg (by decide)]
                        unfold gM_readValue_364
                        refine n_let ?_
                        refine n_sI mS46_ FS46_ (by first | decide | exact hE _ (by decide) | simp) rfl (by omega) (by omega) (fun S63_ mS63_ FS63_ vS63_ gS63_ hS63_ => ?_)
                        refine n_wJ (L := 60) mS63_ FS63_ (by first | decide | exact hE _ (by decide) | simp) (by decide) (by omega) (by omega) (fun S64_ mS64_ FS64_ gS64_ hS64_ kS64_ => ?_)
                        exact n_rW mS64_ FS64_ trivial
                      · skip
                        unfold gM_readValue_364
                        refine n_let ?_
                        refine n_sI mS46_ FS46_ (by first | decide | exact hE _ (by decide) | simp) rfl (by omega) (by omega) (fun S65_ mS65_ FS65_ vS65_ gS65_ hS65_ => ?_)
                        refine n_wJ (L := 60) mS65_ FS65_ (by first | decide | exact hE _ (by decide) | simp) (by decide) (by omega) (by omega) (fun S66_ mS66_ FS66_ gS66_ hS66_ kS66_ => ?_)
                        exact n_rW mS66_ FS66_ trivial
                  · skip
                    unfold gM_readValue_345
                    have r67_ := mi_f mS46_ 45 rfl
                    refine n_let ?_
                    refine n_eq (fun c68_ => ?_) (fun c68_ => ?_)
                    · skip
                      rw [if_pos (by decide)]
                      refine n_sI mS46_ FS46_ (by first | decide | exact hE _ (by decide) | simp) rfl (by omega) (by omega) (fun S69_ mS69_ FS69_ vS69_ gS69_ hS69_ => ?_)
                      refine n_wJ (L := 60) mS69_ FS69_ (by first | decide | exact hE _ (by decide) | simp) (by decide) (by omega) (by omega) (fun S70_ mS70_ FS70_ gS70_ hS70_ kS70_ => ?_)
                      exact n_rW mS70_ FS70_ trivial
                    · skip
                      unfold gM_readValue_364
                      refine n_let ?_
                      refine n_sI mS46_ FS46_ (by first | decide | exact hE _ (by decide) | simp) rfl (by omega) (by omega) (fun S71_ mS71_ FS71_ vS71_ gS71_ hS71_ => ?_)
                      refine n_wJ (L := 60) mS71_ FS71_ (by first | decide | exact hE _ (by decide) | simp) (by decide) (by omega) (by omega) (fun S72_ mS72_ FS72_ gS72_ hS72_ kS72_ => ?_)
                      exact n_rW mS72_ FS72_ trivial
                · skip
                  have L73_ : (70 : Int32).toInt = 70 := rfl
                  refine n_eq (fun c74_ => ?_) (fun c74_ => ?_)
                  · skip
                    have r75_ := mi_f mS46_ 58 rfl
                    refine n_let ?_
                    refine n_eq (fun c76_ => ?_) (fun c76_ => ?_)
                    · skip
                      have L77_ : (0 : Int64).toInt = 0 := rfl
                      refine n_l1 (fun c78_ => ?_) (fun c78_ => ?_)
                      · skip
                        unfold gM_readValue_345
                        have r79_ := mi_f mS46_ 45 rfl
                        refine n_let ?_
                        refine n_eq (fun c80_ => ?_) (fun c80_ => ?_)
                        · skip
                          rw [if_pos (by decide)]
                          refine n_sI mS46_ FS46_ (by first | decide | exact hE _ (by decide) | simp) rfl (by omega) (by omega) (fun S81_ mS81_ FS81_ vS81_ gS81_ hS81_ => ?_)
                          refine n_wJ (L := 60) mS81_ FS81_ (by first | decide | exact hE _ (by decide) | simp) (by decide) (by omega) (by omega) (fun S82_ mS82_ FS82_ gS82_ hS82_ kS82_ => ?_)
                          exact n_rW mS82_ FS82_ trivial
                        · skip
                          unfold gM_readValue_364
                          refine n_let ?_
                          refine n_sI mS46_ FS46_ (by first | decide | exact hE _ (by decide) | simp) rfl (by omega) (by omega) (fun S83_ mS83_ FS83_ vS83_ gS83_ hS83_ => ?_)
                          refine n_wJ (L := 60) mS83_ FS83_ (by first | decide | exact hE _ (by decide) | simp) (by decide) (by omega) (by omega) (fun S84_ mS84_ FS84_ gS84_ hS84_ kS84_ => ?_)
                          exact n_rW mS84_ FS84_ trivial
                      · skip
                        unfold gM_readValue_345
                        have r85_ := mi_f mS46_ 45 rfl
                        refine n_let ?_
                        refine n_eq (fun c86_ => ?_) (fun c86_ => ?_)
                        · skip
                          rw [if_neg (by decide)]
                          unfold gM_readValue_364
                          refine n_let ?_
                          refine n_sI mS46_ FS46_ (by first | decide | exact hE _ (by decide) | simp) rfl (by omega) (by omega) (fun S87_ mS87_ FS87_ vS87_ gS87_ hS87_ => ?_)
                          refine n_wJ (L := 60) mS87_ FS87_ (by first | decide | exact hE _ (by decide) | simp) (by decide) (by omega) (by omega) (fun S88_ mS88_ FS88_ gS88_ hS88_ kS88_ => ?_)
                          exact n_rW mS88_ FS88_ trivial
                        · skip
                          unfold gM_readValue_364
                          refine n_let ?_
                          refine n_sI mS46_ FS46_ (by first | decide | exact hE _ (by decide) | simp) rfl (by omega) (by omega) (fun S89_ mS89_ FS89_ vS89_ gS89_ hS89_ => ?_)
                          refine n_wJ (L := 60) mS89_ FS89_ (by first | decide | exact hE _ (by decide) | simp) (by decide) (by omega) (by omega) (fun S90_ mS90_ FS90_ gS90_ hS90_ kS90_ => ?_)
                          exact n_rW mS90_ FS90_ trivial
                    · skip
                      unfold gM_readValue_345
                      have r91_ := mi_f mS46_ 45 rfl
                      refine n_let ?_
                      refine n_eq (fun c92_ => ?_) (fun c92_ => ?_)
                      · skip
                        rw [if_neg (by decide)]
                        unfold gM_readValue_364
                        refine n_let ?_
                        refine n_sI mS46_ FS46_ (by first | decide | exact hE _ (by decide) | simp) rfl (by omega) (by omega) (fun S93_ mS93_ FS93_ vS93_ gS93_ hS93_ => ?_)
                        refine n_wJ (L := 60) mS93_ FS93_ (by first | decide | exact hE _ (by decide) | simp) (by decide) (by omega) (by omega) (fun S94_ mS94_ FS94_ gS94_ hS94_ kS94_ => ?_)
                        exact n_rW mS94_ FS94_ trivial
                      · skip
                        unfold gM_readValue_364
                        refine n_let ?_
                        refine n_sI mS46_ FS46_ (by first | decide | exact hE _ (by decide) | simp) rfl (by omega) (by omega) (fun S95_ mS95_ FS95_ vS95_ gS95_ hS95_ => ?_)
                        refine n_wJ (L := 60) mS95_ FS95_ (by first | decide | exact hE _ (by decide) | simp) (by decide) (by omega) (by omega) (fun S96_ mS96_ FS96_ gS96_ hS96_ kS96_ => ?_)
                        exact n_rW mS96_ FS96_ trivial
                  · skip
                    have r97_ := mi_f mS46_ 58 rfl
                    refine n_let ?_
                    refine n_eq (fun c98_ => ?_) (fun c98_ => ?_)
                    · skip
                      have L99_ : (0 : Int64).toInt = 0 := rfl
                      have L100_ : (4294967295 : Int64).toInt = 4294967295 := rfl
                      refine n_cP (nM_in  mS46_ ) (fun x10101_ qx10101_ => ?_)
                      refine n_eq (fun c102_ => ?_) (fun c102_ => ?_)
                      · skip
                        unfold gM_readValue_345
                        have r103_ := mi_f mS46_ 45 rfl
                        refine n_let ?_
                        refine n_eq (fun c104_ => ?_) (fun c104_ => ?_)
                        · skip
                          rw [if_pos (by decide)]
                          refine n_sI mS46_ FS46_ (by first | decide | exact hE _ (by decide) | simp) rfl (by omega) (by omega) (fun S105_ mS105_ FS105_ vS105_ gS105_ hS105_ => ?_)
                          refine n_wJ (L := 60) mS105_ FS105_ (by first | decide | exact hE _ (by decide) | simp) (by decide) (by omega) (by omega) (fun S106_ mS106_ FS106_ gS106_ hS106_ kS106_ => ?_)
                          exact n_rW mS106_ FS106_ trivial
                        · skip
                          unfold gM_readValue_364
                          refine n_let ?_
                          refine n_sI mS46_ FS46_ (by first | decide | exact hE _ (by decide) | simp) rfl (by omega) (by omega) (fun S107_ mS107_ FS107_ vS107_ gS107_ hS107_ => ?_)
                          refine n_wJ (L := 60) mS107_ FS107_ (by first | decide | exact hE _ (by decide) | simp) (by decide) (by omega) (by omega) (fun S108_ mS108_ FS108_ gS108_ hS108_ kS108_ => ?_)
                          exact n_rW mS108_ FS108_ trivial
                      · skip
                        unfold gM_readValue_345
                        have r109_ := mi_f mS46_ 45 rfl
                        refine n_let ?_
                        refine n_eq (fun c110_ => ?_) (fun c110_ => ?_)
                        · skip
                          rw [if_neg (by decide)]
                          unfold gM_readValue_364
                          refine n_let ?_
                          refine n_sI mS46_ FS46_ (by first | decide | exact hE _ (by decide) | simp) rfl (by omega) (by omega) (fun S111_ mS111_ FS111_ vS111_ gS111_ hS111_ => ?_)
                          refine n_wJ (L := 60) mS111_ FS111_ (by first | decide | exact hE _ (by decide) | simp) (by decide) (by omega) (by omega) (fun S112_ mS112_ FS112_ gS112_ hS112_ kS112_ => ?_)
                          exact n_rW mS112_ FS112_ trivial
                        · skip
                          unfold gM_readValue_364
                          refine n_let ?_
                          refine n_sI mS46_ FS46_ (by first | decide | exact hE _ (by decide) | simp) rfl (by omega) (by omega) (fun S113_ mS113_ FS113_ vS113_ gS113_ hS113_ => ?_)
                          refine n_wJ (L := 60) mS113_ FS113_ (by first | decide | exact hE _ (by decide) | simp) (by decide) (by omega) (by omega) (fun S114_ mS114_ FS114_ gS114_ hS114_ kS114_ => ?_)
                          exact n_rW mS114_ FS114_ trivial
                    · skip
                      unfold gM_readValue_345
                      have r115_ := mi_f mS46_ 45 rfl
                      refine n_let ?_
                      refine n_eq (fun c116_ => ?_) (fun c116_ => ?_)
                      · skip
                        rw [if_pos (by decide)]
                        refine n_sI mS46_ FS46_ (by first | decide | exact hE _ (by decide) | simp) rfl (by omega) (by omega) (fun S117_ mS117_ FS117_ vS117_ gS117_ hS117_ => ?_)
                        refine n_wJ (L := 60) mS117_ FS117_ (by first | decide | exact hE _ (by decide) | simp) (by decide) (by omega) (by omega) (fun S118_ mS118_ FS118_ gS118_ hS118_ kS118_ => ?_)
                        exact n_rW mS118_ FS118_ trivial
                      · skip
                        unfold gM_readValue_364
                        refine n_let ?_
                        refine n_sI mS46_ FS46_ (by first | decide | exact hE _ (by decide) | simp) rfl (by omega) (by omega) (fun S119_ mS119_ FS119_ vS119_ gS119_ hS119_ => ?_)
                        refine n_wJ (L := 60) mS119_ FS119_ (by first | decide | exact hE _ (by decide) | simp) (by decide) (by omega) (by omega) (fun S120_ mS120_ FS120_ gS120_ hS120_ kS120_ => ?_)
                        exact n_rW mS120_ FS120_ trivial
      · skip
        exact n_rW mS12_ FS12_ trivial
    · skip
      refine n_cP (nM_isTag  mS4_ ) (fun x4121_ qx4121_ => ?_)
      refine n_eq (fun c122_ => ?_) (fun c122_ => ?_)
      · skip
        refine n_sI mS4_ FS4_ (by first | decide | exact hE _ (by decide) | simp) rfl (by omega) (by omega) (fun S123_ mS123_ FS123_ vS123_ gS123_ hS123_ => ?_)
        exact n_rW mS123_ FS123_ trivial
      · skip
        unfold gM_readValue_32
        refine n_cW FS4_ (nM_size  mS4_ (by first | omega | assumption) (by first | omega | assumption)) (by first | decide | (intro k q; exact hE k (by revert q; revert k; decide))) (fun x1124_ S125_ mS125_ FS125_ fS125_ qx1124_ => ?_)
        have q126_ := congrArg Int32.toInt (fS125_.1 58 (by decide))
        have r127_ := mi_f mS125_ 44 rfl
        have r128_ := mi_f mS125_ 45 rfl
        refine n_let ?_
        refine n_eq (fun c129_ => ?_) (fun c129_ => ?_)
        · skip
          refine n_wI (L := 60) mS125_ FS125_ (by first | decide | exact hE _ (by decide) | simp) (by decide) (by decide) rfl (by omega) (by omega) (i_lo _) (i_hi _) (fun S130_ mS130_ FS130_ gS130_ hS130_ kS130_ => ?_)
          have q131_ := congrArg Int32.toInt (congrFun gS130_ 44)
          have q132_ := congrArg Int32.toInt (congrFun gS130_ 45)
          have q133_ := congrArg Int32.toInt (congrFun gS130_ 58)
          have r134_ := mi_f mS130_ 44 rfl
          refine n_let ?_
          try have i136_ : (x1124_ - (S130_.1 44)).toInt = x1124_.toInt - (S130_.1 44).toInt := i_sub (by omega) (by omega)
          refine n_letv (fun x6135_ x6135_v => ?_)
          have x6135_t := congrArg Int32.toInt x6135_v
          have L137_ : (4 : Int32).toInt = 4 := rfl
          refine n_eq (fun c138_ => ?_) (fun c138_ => ?_)
          · skip
            have L139_ : (40 : Int32).toInt = 40 := rfl
            refine n_le (fun c140_ => ?_) (fun c140_ => ?_)
            · skip
              exact nM_readValue_84  (by first | decide | (intro k q; exact hE k (by revert q; revert k; decide))) _ _ _ _ _ _ mS130_ FS130_ (by first | omega | assumption) (by first | omega | assumption) (by first | omega | assumption) (by first | omega | assumption) (by first | omega | assumption) (by first | omega | assumption) (by first | omega | assumption) (by first | omega | assumption) (by first | omega | assumption) (by simp only [sm_fuel_eq]; omega)
            · skip
              refine n_sI mS130_ FS130_ (by first | decide | exact hE _ (by decide) | simp) rfl (by omega) (by omega) (fun S141_ mS141_ FS141_ vS141_ gS141_ hS141_ => ?_)
              exact n_rW mS141_ FS141_ trivial
          · skip
            refine n_eq (fun c142_ => ?_) (fun c142_ => ?_)
            · skip
              refine n_eq (fun c143_ => ?_) (fun c143_ => ?_)
              · skip
                refine n_sI mS130_ FS130_ (by first | decide | exact hE _ (by decide) | simp) rfl (by omega) (by omega) (fun S144_ mS144_ FS144_ vS144_ gS144_ hS144_ => ?_)
                exact n_rW mS144_ FS144_ trivial
              · skip
                refine n_sI mS130_ FS130_ (by first | decide | exact hE _ (by decide) | simp) rfl (by omega) (by omega) (fun S145_ mS145_ FS145_ vS145_ gS145_ hS145_ => ?_)
                exact n_rW mS145_ FS145_ trivial
            · skip
              have L146_ : (6 : Int32).toInt = 6 := rfl
              refine n_eq (fun c147_ => ?_) (fun c147_ => ?_)
              · skip
                have L148_ : (16 : Int32).toInt = 16 := rfl
                try have i149_ : ((16 : Int32) * a1).toInt = 16 * a1.toInt := i_mul (n := 16) rfl (by omega) (by omega)
                refine n_cW FS130_ (nM_readName  mS130_ (by decide) (by first | decide | exact hE _ (by decide)) (by first | omega | assumption) (by first | omega | assumption) (by first | omega | assumption) (by first | omega | assumption)) (by first | decide | (intro k q; exact hE k (by revert q; revert k; decide))) (fun x17150_ S151_ mS151_ FS151_ fS151_ qx17150_ => ?_)
                refine n_wI (L := 60) mS151_ FS151_ (by first | decide | exact hE _ (by decide) | simp) (by decide) (by decide) rfl (by omega) (by omega) (by omega) (by omega) (fun S152_ mS152_ FS152_ gS152_ hS152_ kS152_ => ?_)
                exact n_rW mS152_ FS152_ trivial
              · skip
                have L153_ : (64 : Int32).toInt = 64 := rfl
                refine n_eq (fun c154_ => ?_) (fun c154_ => ?_)
                · skip
                  refine n_eq (fun c155_ => ?_) (fun c155_ => ?_)
                  · skip
                    have L156_ : (0 : Int64).toInt = 0 := rfl
                    exact nM_readValue_213  (by first | decide | (intro k q; exact hE k (by revert q; revert k; decide))) _ _ _ _ _ _ mS130_ FS130_ (by first | omega | assumption) (by first | omega | assumption) (by first | omega | assumption) (by first | omega | assumption) (by first | omega | assumption) (by first | omega | assumption) (by simp only [sm_fuel_eq]; omega)
                  · skip
                    refine n_sI mS130_ FS130_ (by first | decide | exact hE _ (by decide) | simp) rfl (by omega) (by omega) (fun S157_ mS157_ FS157_ vS157_ gS157_ hS157_ => ?_)
                    exact n_rW mS157_ FS157_ trivial
                · skip
                  refine n_cW FS130_ (nM_read  mS130_ (by first | omega | assumption) (by first | omega | assumption)) (by first | decide | (intro k q; exact hE k (by revert q; revert k; decide))) (fun x7158_ S159_ mS159_ FS159_ fS159_ qx7158_ => ?_)
                  have L160_ : (2 : Int32).toInt = 2 := rfl
                  refine n_eq (fun c161_ => ?_) (fun c161_ => ?_)
                  · skip
                    have r162_ := mi_f mS159_ 58 rfl
                    refine n_let ?_
                    refine n_eq (fun c163_ => ?_) (fun c163_ => ?_)
                    · skip
                      have L164_ : (-2147483648 : Int64).toInt = -2147483648 := rfl
                      have L165_ : (2147483647 : Int64).toInt = 2147483647 := rfl
                      refine n_cP (nM_in  mS159_ ) (fun x14166_ qx14166_ => ?_)
                      refine n_eq (fun c167_ => ?_) (fun c167_ => ?_)
                      · skip
                        unfold gM_readValue_345
                        have r168_ := mi_f mS159_ 45 rfl
                        refine n_let ?_
                        refine n_eq (fun c169_ => ?_) (fun c169_ => ?_)
                        · skip
                          rw [if_pos (by decide)]
                          refine n_sI mS159_ FS159_ (by first | decide | exact hE _ (by decide) | simp) rfl (by omega) (by omega) (fun S170_ mS170_ FS170_ vS170_ gS170_ hS170_ => ?_)
                          refine n_wJ (L := 60) mS170_ FS170_ (by first | decide | exact hE _ (by decide) | simp) (by decide) (by omega) (by omega) (fun S171_ mS171_ FS171_ gS171_ hS171_ kS171_ => ?_)
                          exact n_rW mS171_ FS171_ trivial
                        · skip
                          unfold gM_readValue_364
                          refine n_let ?_
                          refine n_sI mS159_ FS159_ (by first | decide | exact hE _ (by decide) | simp) rfl (by omega) (by omega) (fun S172_ mS172_ FS172_ vS172_ gS172_ hS172_ => ?_)
                          refine n_wJ (L := 60) mS172_ FS172_ (by first | decide | exact hE _ (by decide) | simp) (by decide) (by omega) (by omega) (fun S173_ mS173_ FS173_ gS173_ hS173_ kS173_ => ?_)
                          exact n_rW mS173_ FS173_ trivial
                      · skip
                        unfold gM_readValue_345
                        have r174_ := mi_f mS159_ 45 rfl
                        refine n_let ?_
                        refine n_eq (fun c175_ => ?_) (fun c175_ => ?_)
                        · skip
                          rw [if_neg (by decide)]
                          unfold gM_readValue_364
                          refine n_let ?_
                          refine n_sI mS159_ FS159_ (by first | decide | exact hE _ (by decide) | simp) rfl (by omega) (by omega) (fun S176_ mS176_ FS176_ vS176_ gS176_ hS176_ => ?_)
                          refine n_wJ (L := 60) mS176_ FS176_ (by first | decide | exact hE _ (by decide) | simp) (by decide) (by omega) (by omega) (fun S177_ mS177_ FS177_ gS177_ hS177_ kS177_ => ?_)
                          exact n_rW mS177_ FS177_ trivial
                        · skip
                          unfold gM_readValue_364
                          refine n_let ?_
                          refine n_sI mS159_ FS159_ (by first | decide | exact hE _ (by decide) | simp) rfl (by omega) (by omega) (fun S178_ mS178_ FS178_ vS178_ gS178_ hS178_ => ?_)
                          refine n_wJ (L := 60) mS178_ FS178_ (by first | decide | exact hE _ (by decide) | simp) (by decide) (by omega) (by omega) (fun S179_ mS179_ FS179_ gS179_ hS179_ kS179_ => ?_)
                          exact n_rW mS179_ FS179_ trivial
                    · skip
                      unfold gM_readValue_345
                      have r180_ := mi_f mS159_ 45 rfl
                      refine n_let ?_
                      refine n_eq (fun c181_ => ?_) (fun c181_ => ?_)
                      · skip
                        rw [if_pos (by decide)]
                        refine n_sI mS159_ FS159_ (by first | decide | exact hE _ (by decide) | simp) rfl (by omega) (by omega) (fun S182_ mS182_ FS182_ vS182_ gS182_ hS182_ => ?_)
                        refine n_wJ (L := 60) mS182_ FS182_ (by first | decide | exact hE _ (by decide) | simp) (by decide) (by omega) (by omega) (fun S183_ mS183_ FS183_ gS183_ hS183_ kS183_ => ?_)
                        exact n_rW mS183_ FS183_ trivial
                      · skip
                        unfold gM_readValue_364
                        refine n_let ?_
                        refine n_sI mS159_ FS159_ (by first | decide | exact hE _ (by decide) | simp) rfl (by omega) (by omega) (fun S184_ mS184_ FS184_ vS184_ gS184_ hS184_ => ?_)
                        refine n_wJ (L := 60) mS184_ FS184_ (by first | decide | exact hE _ (by decide) | simp) (by decide) (by omega) (by omega) (fun S185_ mS185_ FS185_ gS185_ hS185_ kS185_ => ?_)
                        exact n_rW mS185_ FS185_ trivial
                  · skip
                    have L186_ : (70 : Int32).toInt = 70 := rfl
                    refine n_eq (fun c187_ => ?_) (fun c187_ => ?_)
                    · skip
                      have r188_ := mi_f mS159_ 58 rfl
                      refine n_let ?_
                      refine n_eq (fun c189_ => ?_) (fun c189_ => ?_)
                      · skip
                        have L190_ : (0 : Int64).toInt = 0 := rfl
                        refine n_l1 (fun c191_ => ?_) (fun c191_ => ?_)
                        · skip
                          unfold gM_readValue_345
                          have r192_ := mi_f mS159_ 45 rfl
                          refine n_let ?_
                          refine n_eq (fun c193_ => ?_) (fun c193_ => ?_)
                          · skip
                            rw [if_pos (by decide)]
                            refine n_sI mS159_ FS159_ (by first | decide | exact hE _ (by decide) | simp) rfl (by omega) (by omega) (fun S194_ mS194_ FS194_ vS194_ gS194_ hS194_ => ?_)
                            refine n_wJ (L := 60) mS194_ FS194_ (by first | decide | exact hE _ (by decide) | simp) (by decide) (by omega) (by omega) (fun S195_ mS195_ FS195_ gS195_ hS195_ kS195_ => ?_)
                            exact n_rW mS195_ FS195_ trivial
                          · skip
                            unfold gM_readValue_364
                            refine n_let ?_
                            refine n_sI mS159_ FS159_ (by first | decide | exact hE _ (by decide) | simp) rfl (by omega) (by omega) (fun S196_ mS196_ FS196_ vS196_ gS196_ hS196_ => ?_)
                            refine n_wJ (L := 60) mS196_ FS196_ (by first | decide | exact hE _ (by decide) | simp) (by decide) (by omega) (by omega) (fun S197_ mS197_ FS197_ gS197_ hS197_ kS197_ => ?_)
                            exact n_rW mS197_ FS197_ trivial
                        · skip
                          unfold gM_readValue_345
                          have r198_ := mi_f mS159_ 45 rfl
                          refine n_let ?_
                          refine n_eq (fun c199_ => ?_) (fun c199_ => ?_)
                          · skip
                            rw [if_neg (by decide)]
                            unfold gM_readValue_364
                            refine n_let ?_
                            refine n_sI mS159_ FS159_ (by first | decide | exact hE _ (by decide) | simp) rfl (by omega) (by omega) (fun S200_ mS200_ FS200_ vS200_ gS200_ hS200_ => ?_)
                            refine n_wJ (L := 60) mS200_ FS200_ (by first | decide | exact hE _ (by decide) | simp) (by decide) (by omega) (by omega) (fun S201_ mS201_ FS201_ gS201_ hS201_ kS201_ => ?_)
                            exact n_rW mS201_ FS201_ trivial
                          · skip
                            unfold gM_readValue_364
                            refine n_let ?_
                            refine n_sI mS159_ FS159_ (by first | decide | exact hE _ (by decide) | simp) rfl (by omega) (by omega) (fun S202_ mS202_ FS202_ vS202_ gS202_ hS202_ => ?_)
                            refine n_wJ (L := 60) mS202_ FS202_ (by first | decide | exact hE _ (by decide) | simp) (by decide) (by omega) (by omega) (fun S203_ mS203_ FS203_ gS203_ hS203_ kS203_ => ?_)
                            exact n_rW mS203_ FS203_ trivial
                      · skip
                        unfold gM_readValue_345
                        have r204_ := mi_f mS159_ 45 rfl
                        refine n_let ?_
                        refine n_eq (fun c205_ => ?_) (fun c205_ => ?_)
                        · skip
                          rw [if_neg (by decide)]
                          unfold gM_readValue_364
                          refine n_let ?_
                          refine n_sI mS159_ FS159_ (by first | decide | exact hE _ (by decide) | simp) rfl (by omega) (by omega) (fun S206_ mS206_ FS206_ vS206_ gS206_ hS206_ => ?_)
                          refine n_wJ (L := 60) mS206_ FS206_ (by first | decide | exact hE _ (by decide) | simp) (by decide) (by omega) (by omega) (fun S207_ mS207_ FS207_ gS207_ hS207_ kS207_ => ?_)
                          exact n_rW mS207_ FS207_ trivial
                        · skip
                          unfold gM_readValue_364
                          refine n_let ?_
                          refine n_sI mS159_ FS159_ (by first | decide | exact hE _ (by decide) | simp) rfl (by omega) (by omega) (fun S208_ mS208_ FS208_ vS208_ gS208_ hS208_ => ?_)
                          refine n_wJ (L := 60) mS208_ FS208_ (by first | decide | exact hE _ (by decide) | simp) (by decide) (by omega) (by omega) (fun S209_ mS209_ FS209_ gS209_ hS209_ kS209_ => ?_)
                          exact n_rW mS209_ FS209_ trivial
                    · skip
                      have r210_ := mi_f mS159_ 58 rfl
                      refine n_let ?_
                      refine n_eq (fun c211_ => ?_) (fun c211_ => ?_)
                      · skip
                        have L212_ : (0 : Int64).toInt = 0 := rfl
                        have L213_ : (4294967295 : Int64).toInt = 4294967295 := rfl
                        refine n_cP (nM_in  mS159_ ) (fun x10214_ qx10214_ => ?_)
                        refine n_eq (fun c215_ => ?_) (fun c215_ => ?_)
                        · skip
                          unfold gM_readValue_345
                          have r216_ := mi_f mS159_ 45 rfl
                          refine n_let ?_
                          refine n_eq (fun c217_ => ?_) (fun c217_ => ?_)
                          · skip
                            rw [if_pos (by decide)]
                            refine n_sI mS159_ FS159_ (by first | decide | exact hE _ (by decide) | simp) rfl (by omega) (by omega) (fun S218_ mS218_ FS218_ vS218_ gS218_ hS218_ => ?_)
                            refine n_wJ (L := 60) mS218_ FS218_ (by first | decide | exact hE _ (by decide) | simp) (by decide) (by omega) (by omega) (fun S219_ mS219_ FS219_ gS219_ hS219_ kS219_ => ?_)
                            exact n_rW mS219_ FS219_ trivial
                          · skip
                            unfold gM_readValue_364
                            refine n_let ?_
                            refine n_sI mS159_ FS159_ (by first | decide | exact hE _ (by decide) | simp) rfl (by omega) (by omega) (fun S220_ mS220_ FS220_ vS220_ gS220_ hS220_ => ?_)
                            refine n_wJ (L := 60) mS220_ FS220_ (by first | decide | exact hE _ (by decide) | simp) (by decide) (by omega) (by omega) (fun S221_ mS221_ FS221_ gS221_ hS221_ kS221_ => ?_)
                            exact n_rW mS221_ FS221_ trivial
                        · skip
                          unfold gM_readValue_345
                          have r222_ := mi_f mS159_ 45 rfl
                          refine n_let ?_
                          refine n_eq (fun c223_ => ?_) (fun c223_ => ?_)
                          · skip
                            rw [if_neg (by decide)]
                            unfold gM_readValue_364
                            refine n_let ?_
                            refine n_sI mS159_ FS159_ (by first | decide | exact hE _ (by decide) | simp) rfl (by omega) (by omega) (fun S224_ mS224_ FS224_ vS224_ gS224_ hS224_ => ?_)
                            refine n_wJ (L := 60) mS224_ FS224_ (by first | decide | exact hE _ (by decide) | simp) (by decide) (by omega) (by omega) (fun S225_ mS225_ FS225_ gS225_ hS225_ kS225_ => ?_)
                            exact n_rW mS225_ FS225_ trivial
                          · skip
                            unfold gM_readValue_364
                            refine n_let ?_
                            refine n_sI mS159_ FS159_ (by first | decide | exact hE _ (by decide) | simp) rfl (by omega) (by omega) (fun S226_ mS226_ FS226_ vS226_ gS226_ hS226_ => ?_)
                            refine n_wJ (L := 60) mS226_ FS226_ (by first | decide | exact hE _ (by decide) | simp) (by decide) (by omega) (by omega) (fun S227_ mS227_ FS227_ gS227_ hS227_ kS227_ => ?_)
                            exact n_rW mS227_ FS227_ trivial
                      · skip
                        unfold gM_readValue_345
                        have r228_ := mi_f mS159_ 45 rfl
                        refine n_let ?_
                        refine n_eq (fun c229_ => ?_) (fun c229_ => ?_)
                        · skip
                          rw [if_pos (by decide)]
                          refine n_sI mS159_ FS159_ (by first | decide | exact hE _ (by decide) | simp) rfl (by omega) (by omega) (fun S230_ mS230_ FS230_ vS230_ gS230_ hS230_ => ?_)
                          refine n_wJ (L := 60) mS230_ FS230_ (by first | decide | exact hE _ (by decide) | simp) (by decide) (by omega) (by omega) (fun S231_ mS231_ FS231_ gS231_ hS231_ kS231_ => ?_)
                          exact n_rW mS231_ FS231_ trivial
                        · skip
                          unfold gM_readValue_364
                          refine n_let ?_
                          refine n_sI mS159_ FS159_ (by first | decide | exact hE _ (by decide) | simp) rfl (by omega) (by omega) (fun S232_ mS232_ FS232_ vS232_ gS232_ hS232_ => ?_)
                          refine n_wJ (L := 60) mS232_ FS232_ (by first | decide | exact hE _ (by decide) | simp) (by decide) (by omega) (by omega) (fun S233_ mS233_ FS233_ gS233_ hS233_ kS233_ => ?_)
                          exact n_rW mS233_ FS233_ trivial
        · skip
          exact n_rW mS125_ FS125_ trivial
  · skip
    exact n_rW mS4_ FS4_ trivial
