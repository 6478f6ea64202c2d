-- gM_instance
set_option maxHeartbeats 4000000 in
theorem nM_instance {a1 : Int32} {a2 : Int32} {S : MS} (mS : MI S)  : nJ (NP S (fun r : Int32 => r.toInt = -1 ∨ (0 ≤ r.toInt ∧ r.toInt ≤ 639 ∧ 0 ≤ a1.toInt ∧ a1.toInt ≤ 39))) (gM_instance a1 a2 S) := by
  unfold gM_instance
  have L1_ : (0 : Int32).toInt = 0 := rfl
  have L2_ : (1 : Int32).toInt = 1 := rfl
  have r3_ := mi_f mS 8 rfl
  refine n_let ?_
  have j4_ := Int32.toInt_toInt64 (a1)
  have L5_ : (0 : Int64).toInt = 0 := rfl
  try have i6_ : ((S.1 8) - (1 : Int32)).toInt = (S.1 8).toInt - (1 : Int32).toInt := i_sub (by omega) (by omega)
  have j7_ := Int32.toInt_toInt64 (((S.1 8) - (1 : Int32)))
  refine n_cP (nM_in  mS ) (fun x28_ qx28_ => ?_)
  refine n_eq (fun c9_ => ?_) (fun c9_ => ?_)
  · skip
    have L10_ : (-1 : Int32).toInt = -1 := rfl
    exact n_rP (by omega)
  · skip
    refine n_rI (L := 40) mS (by decide) rfl (by omega) (by omega) (fun x411_ x411_e x411_l x411_u => ?_)
    refine n_le (fun c12_ => ?_) (fun c12_ => ?_)
    · skip
      refine n_rI (L := 40) mS (by decide) rfl (by omega) (by omega) (fun x513_ x513_e x513_l x513_u => ?_)
      have q14_ : x513_.toInt = x411_.toInt := by rw [x513_e, x411_e]
      have j15_ := Int32.toInt_toInt64 (a2)
      refine n_cP (nM_placeOf  mS (by first | omega | assumption) (by first | omega | assumption)) (fun x616_ qx616_ => ?_)
      have x616_z := plc_b qx616_
      refine n_le (fun c17_ => ?_) (fun c17_ => ?_)
      · skip
        have L18_ : (16 : Int32).toInt = 16 := rfl
        try have i19_ : ((16 : Int32) * a1).toInt = 16 * a1.toInt := i_mul (n := 16) rfl (by omega) (by omega)
        try have i20_ : (((16 : Int32) * a1) + x616_).toInt = ((16 : Int32) * a1).toInt + x616_.toInt := i_add (by omega) (by omega)
        exact n_rP (by omega)
      · skip
        have L21_ : (-1 : Int32).toInt = -1 := rfl
        exact n_rP (by omega)
    · skip
      refine n_eq (fun c22_ => ?_) (fun c22_ => ?_)
      · skip
        have L23_ : (16 : Int32).toInt = 16 := rfl
        try have i24_ : ((16 : Int32) * a1).toInt = 16 * a1.toInt := i_mul (n := 16) rfl (by omega) (by omega)
        exact n_rP (by omega)
      · skip
        have L25_ : (-1 : Int32).toInt = -1 := rfl
        exact n_rP (by omega)

-- gM_value
set_option maxHeartbeats 4000000 in
theorem nM_value {a1 : Int32} {a2 : Int32} {a3 : Int64} {S : MS} (mS : MI S)  : nJ (NW [0, 17] S (fun (r : Int32) (S' : MS) => True)) (gM_value a1 a2 a3 S) := by
  unfold gM_value
  have FS := fM_rf [0, 17] S
  have L1_ : (0 : Int32).toInt = 0 := rfl
  have L2_ : (1 : Int32).toInt = 1 := rfl
  refine n_sI mS FS (by first | decide | exact hE _ (by decide) | simp) rfl (i_lo _) (i_hi _) (fun S3_ mS3_ FS3_ vS3_ gS3_ hS3_ => ?_)
  refine n_cP (nM_instance  mS3_ ) (fun x24_ qx24_ => ?_)
  refine n_lt (fun c5_ => ?_) (fun c5_ => ?_)
  · skip
    exact n_rW mS3_ FS3_ trivial
  · skip
    refine n_rI (L := 40) mS3_ (by decide) rfl (by omega) (by omega) (fun x46_ x46_e x46_l x46_u => ?_)
    have L7_ : (4 : Int32).toInt = 4 := rfl
    refine n_eq (fun c8_ => ?_) (fun c8_ => ?_)
    · skip
      exact n_rW mS3_ FS3_ trivial
    · skip
      refine n_rI (L := 40) mS3_ (by decide) rfl (by omega) (by omega) (fun x59_ x59_e x59_l x59_u => ?_)
      have q10_ : x59_.toInt = x46_.toInt := by rw [x59_e, x46_e]
      have L11_ : (6 : Int32).toInt = 6 := rfl
      refine n_eq (fun c12_ => ?_) (fun c12_ => ?_)
      · skip
        exact n_rW mS3_ FS3_ trivial
      · skip
        refine n_rI (L := 40) mS3_ (by decide) rfl (by omega) (by omega) (fun x613_ x613_e x613_l x613_u => ?_)
        refine n_eq (fun c14_ => ?_) (fun c14_ => ?_)
        · skip
          refine n_rI (L := 40) mS3_ (by decide) rfl (by omega) (by omega) (fun x715_ x715_e x715_l x715_u => ?_)
          have q16_ : x715_.toInt = x46_.toInt := by rw [x715_e, x46_e]
          have L17_ : (2 : Int32).toInt = 2 := rfl
          refine n_eq (fun c18_ => ?_) (fun c18_ => ?_)
          · skip
            have L19_ : (-2147483648 : Int64).toInt = -2147483648 := rfl
            have L20_ : (2147483647 : Int64).toInt = 2147483647 := rfl
            refine n_cP (nM_in  mS3_ ) (fun x821_ qx821_ => ?_)
            refine n_eq (fun c22_ => ?_) (fun c22_ => ?_)
            · skip
              exact n_rW mS3_ FS3_ trivial
            · skip
              unfold gM_value_73
              refine n_rI (L := 40) mS3_ (by decide) rfl (by omega) (by omega) (fun x123_ x123_e x123_l x123_u => ?_)
              have q24_ : x123_.toInt = x46_.toInt := by rw [x123_e, x46_e]
              have j25_ := Int32.toInt_toInt64 (x123_)
              have L26_ : (65 : Int64).toInt = 65 := rfl
              have L27_ : (67 : Int64).toInt = 67 := rfl
              refine n_cP (nM_in  mS3_ ) (fun x228_ qx228_ => ?_)
              refine n_eq (fun c29_ => ?_) (fun c29_ => ?_)
              · skip
                unfold gM_value_106
                refine n_rI (L := 40) mS3_ (by decide) rfl (by omega) (by omega) (fun x130_ x130_e x130_l x130_u => ?_)
                have q31_ : x130_.toInt = x46_.toInt := by rw [x130_e, x46_e]
                have L32_ : (64 : Int32).toInt = 64 := rfl
                refine n_eq (fun c33_ => ?_) (fun c33_ => ?_)
                · skip
                  refine n_wJ (L := 640) mS3_ FS3_ (by first | decide | exact hE _ (by decide) | simp) (by decide) (by omega) (by omega) (fun S34_ mS34_ FS34_ gS34_ hS34_ kS34_ => ?_)
                  exact n_rW mS34_ FS34_ trivial
                · skip
                  refine n_wJ (L := 640) mS3_ FS3_ (by first | decide | exact hE _ (by decide) | simp) (by decide) (by omega) (by omega) (fun S35_ mS35_ FS35_ gS35_ hS35_ kS35_ => ?_)
                  exact n_rW mS35_ FS35_ trivial
              · skip
                have L36_ : (0 : Int64).toInt = 0 := rfl
                have L37_ : (4294967295 : Int64).toInt = 4294967295 := rfl
                refine n_cP (nM_in  mS3_ ) (fun x438_ qx438_ => ?_)
                refine n_eq (fun c39_ => ?_) (fun c39_ => ?_)
                · skip
                  exact n_rW mS3_ FS3_ trivial
                · skip
                  unfold gM_value_106
                  refine n_rI (L := 40) mS3_ (by decide) rfl (by omega) (by omega) (fun x140_ x140_e x140_l x140_u => ?_)
                  have q41_ : x140_.toInt = x46_.toInt := by rw [x140_e, x46_e]
                  have L42_ : (64 : Int32).toInt = 64 := rfl
                  refine n_eq (fun c43_ => ?_) (fun c43_ => ?_)
                  · skip
                    refine n_wJ (L := 640) mS3_ FS3_ (by first | decide | exact hE _ (by decide) | simp) (by decide) (by omega) (by omega) (fun S44_ mS44_ FS44_ gS44_ hS44_ kS44_ => ?_)
                    exact n_rW mS44_ FS44_ trivial
                  · skip
                    refine n_wJ (L := 640) mS3_ FS3_ (by first | decide | exact hE _ (by decide) | simp) (by decide) (by omega) (by omega) (fun S45_ mS45_ FS45_ gS45_ hS45_ kS45_ => ?_)
                    exact n_rW mS45_ FS45_ trivial
          · skip
            unfold gM_value_73
            refine n_rI (L := 40) mS3_ (by decide) rfl (by omega) (by omega) (fun x146_ x146_e x146_l x146_u => ?_)
            have q47_ : x146_.toInt = x46_.toInt := by rw [x146_e, x46_e]
            have j48_ := Int32.toInt_toInt64 (x146_)
            have L49_ : (65 : Int64).toInt = 65 := rfl
            have L50_ : (67 : Int64).toInt = 67 := rfl
            refine n_cP (nM_in  mS3_ ) (fun x251_ qx251_ => ?_)
            refine n_eq (fun c52_ => ?_) (fun c52_ => ?_)
            · skip
              unfold gM_value_106
              refine n_rI (L := 40) mS3_ (by decide) rfl (by omega) (by omega) (fun x153_ x153_e x153_l x153_u => ?_)
              have q54_ : x153_.toInt = x46_.toInt := by rw [x153_e, x46_e]
              have L55_ : (64 : Int32).toInt = 64 := rfl
              refine n_eq (fun c56_ => ?_) (fun c56_ => ?_)
              · skip
                refine n_wJ (L := 640) mS3_ FS3_ (by first | decide | exact hE _ (by decide) | simp) (by decide) (by omega) (by omega) (fun S57_ mS57_ FS57_ gS57_ hS57_ kS57_ => ?_)
                exact n_rW mS57_ FS57_ trivial
              · skip
                refine n_wJ (L := 640) mS3_ FS3_ (by first | decide | exact hE _ (by decide) | simp) (by decide) (by omega) (by omega) (fun S58_ mS58_ FS58_ gS58_ hS58_ kS58_ => ?_)
                exact n_rW mS58_ FS58_ trivial
            · skip
              have L59_ : (0 : Int64).toInt = 0 := rfl
              have L60_ : (4294967295 : Int64).toInt = 4294967295 := rfl
              refine n_cP (nM_in  mS3_ ) (fun x461_ qx461_ => ?_)
              refine n_eq (fun c62_ => ?_) (fun c62_ => ?_)
              · skip
                exact n_rW mS3_ FS3_ trivial
              · skip
                unfold gM_value_106
                refine n_rI (L := 40) mS3_ (by decide) rfl (by omega) (by omega) (fun x163_ x163_e x163_l x163_u => ?_)
                have q64_ : x163_.toInt = x46_.toInt := by rw [x163_e, x46_e]
                have L65_ : (64 : Int32).toInt = 64 := rfl
                refine n_eq (fun c66_ => ?_) (fun c66_ => ?_)
                · skip
                  refine n_wJ (L := 640) mS3_ FS3_ (by first | decide | exact hE _ (by decide) | simp) (by decide) (by omega) (by omega) (fun S67_ mS67_ FS67_ gS67_ hS67_ kS67_ => ?_)
                  exact n_rW mS67_ FS67_ trivial
                · skip
                  refine n_wJ (L := 640) mS3_ FS3_ (by first | decide | exact hE _ (by decide) | simp) (by decide) (by omega) (by omega) (fun S68_ mS68_ FS68_ gS68_ hS68_ kS68_ => ?_)
                  exact n_rW mS68_ FS68_ trivial
        · skip
          exact n_rW mS3_ FS3_ trivial

-- gM_text_52
set_option maxHeartbeats 4000000 in
theorem nM_text_52 {E : List Nat} {S0 : MS} (hE : ∀ k ∈ [18, 19], k ∈ E) : ∀ (n : Nat) (a3 : Int32) (a4 : Int32) (a5 : Int32) (S : MS), MI S → fM E S0 S → 0 ≤ a3.toInt → a3.toInt ≤ 40 → 0 ≤ a4.toInt → a4.toInt ≤ 639 → 0 ≤ a5.toInt → a5.toInt ≤ 40 → (S.1 2).toInt = 0 → 40 - a5.toInt < (n : Int) → nJ (NW E S0 (fun (r : Int32) (S' : MS) => (S'.1 2).toInt = 0)) (gM_text_52 n a3 a4 a5 S) := by
  intro n
  induction n with
  | zero => intro a3 a4 a5 S mS FS p0_ p1_ p2_ p3_ p4_ p5_ p6_ m_; exfalso; omega
  | succ n ih =>
    intro a3 a4 a5 S mS FS p0_ p1_ p2_ p3_ p4_ p5_ p6_ m_
    unfold gM_text_52
    have L1_ : (0 : Int32).toInt = 0 := rfl
    have L2_ : (1 : Int32).toInt = 1 := rfl
    refine n_le (fun c3_ => ?_) (fun c3_ => ?_)
    · skip
      refine n_wI (L := 640) mS FS (by first | decide | exact hE _ (by decide) | simp) (by decide) (by decide) rfl (by omega) (by omega) (by omega) (by omega) (fun S4_ mS4_ FS4_ gS4_ hS4_ kS4_ => ?_)
      have q5_ := congrArg Int32.toInt (congrFun gS4_ 2)
      have r6_ := mi_f mS4_ 2 rfl
      exact n_rW mS4_ FS4_ (by omega)
    · skip
      refine n_rI (L := 1200) mS (by decide) rfl (by omega) (by omega) (fun x27_ x27_e x27_l x27_u => ?_)
      have L8_ : (40 : Int32).toInt = 40 := rfl
      try have i9_ : ((40 : Int32) * a4).toInt = 40 * a4.toInt := i_mul (n := 40) rfl (by omega) (by omega)
      try have i10_ : (((40 : Int32) * a4) + a5).toInt = ((40 : Int32) * a4).toInt + a5.toInt := i_add (by omega) (by omega)
      refine n_wI (L := 25600) mS FS (by first | decide | exact hE _ (by decide) | simp) (by decide) (by decide) rfl (by omega) (by omega) (i_lo _) (i_hi _) (fun S11_ mS11_ FS11_ gS11_ hS11_ kS11_ => ?_)
      have q12_ := congrArg Int32.toInt (congrFun gS11_ 2)
      try have i14_ : (a5 + (1 : Int32)).toInt = a5.toInt + (1 : Int32).toInt := i_add (by omega) (by omega)
      refine n_letv (fun x413_ x413_v => ?_)
      have x413_t := congrArg Int32.toInt x413_v
      have r15_ := mi_f mS11_ 2 rfl
      exact ih a3 a4 x413_ S11_ mS11_ FS11_ (by first | omega | assumption) (by first | omega | assumption) (by first | omega | assumption) (by first | omega | assumption) (by first | omega | assumption) (by first | omega | assumption) (by first | omega | assumption) (by omega)

-- gM_text
set_option maxHeartbeats 4000000 in
theorem nM_text {a1 : Int32} {a2 : Int32} {S : MS} (mS : MI S)  : nJ (NW [0, 18, 19, 2] S (fun (r : Int32) (S' : MS) => (S'.1 2).toInt = 0)) (gM_text a1 a2 S) := by
  unfold gM_text
  have FS := fM_rf [0, 18, 19, 2] S
  have L1_ : (0 : Int32).toInt = 0 := rfl
  have L2_ : (1 : Int32).toInt = 1 := rfl
  refine n_sI mS FS (by first | decide | exact hE _ (by decide) | simp) rfl (i_lo _) (i_hi _) (fun S3_ mS3_ FS3_ vS3_ gS3_ hS3_ => ?_)
  have q4_ := congrArg Int32.toInt (gS3_ 2 (by decide))
  have r5_ := mi_f mS3_ 2 rfl
  refine n_let ?_
  refine n_sI mS3_ FS3_ (by first | decide | exact hE _ (by decide) | simp) rfl (by omega) (by omega) (fun S6_ mS6_ FS6_ vS6_ gS6_ hS6_ => ?_)
  have q7_ := congrArg Int32.toInt vS6_
  refine n_cP (nM_instance  mS6_ ) (fun x48_ qx48_ => ?_)
  refine n_lt (fun c9_ => ?_) (fun c9_ => ?_)
  · skip
    have L10_ : (-1 : Int32).toInt = -1 := rfl
    have r11_ := mi_f mS6_ 2 rfl
    exact n_rW mS6_ FS6_ (by omega)
  · skip
    refine n_rI (L := 40) mS6_ (by decide) rfl (by omega) (by omega) (fun x612_ x612_e x612_l x612_u => ?_)
    have L13_ : (4 : Int32).toInt = 4 := rfl
    refine n_eq (fun c14_ => ?_) (fun c14_ => ?_)
    · skip
      have L15_ : (40 : Int32).toInt = 40 := rfl
      refine n_le (fun c16_ => ?_) (fun c16_ => ?_)
      · skip
        have r17_ := mi_f mS6_ 2 rfl
        exact nM_text_52  (by first | decide | (intro k q; exact hE k (by revert q; revert k; decide))) _ _ _ _ _ mS6_ FS6_ (by first | omega | assumption) (by first | omega | assumption) (by first | omega | assumption) (by first | omega | assumption) (by first | omega | assumption) (by first | omega | assumption) (by first | omega | assumption) (by simp only [sm_fuel_eq]; omega)
      · skip
        have L18_ : (-2 : Int32).toInt = -2 := rfl
        have r19_ := mi_f mS6_ 2 rfl
        exact n_rW mS6_ FS6_ (by omega)
    · skip
      have L20_ : (-1 : Int32).toInt = -1 := rfl
      have r21_ := mi_f mS6_ 2 rfl
      exact n_rW mS6_ FS6_ (by omega)

-- gM_identity_61
set_option maxHeartbeats 4000000 in
theorem nM_identity_61 {E : List Nat} {S0 : MS} (hE : ∀ k ∈ [20, 21], k ∈ E) : ∀ (n : Nat) (a3 : Int32) (a4 : Int32) (a5 : Int32) (S : MS), MI S → fM E S0 S → 0 ≤ a3.toInt → a3.toInt ≤ 16 → 0 ≤ a4.toInt → a4.toInt ≤ 639 → 0 ≤ a5.toInt → a5.toInt ≤ 16 → 16 - a5.toInt < (n : Int) → nJ (NW E S0 (fun (r : Int32) (S' : MS) => True)) (gM_identity_61 n a3 a4 a5 S) := by
  intro n
  induction n with
  | zero => intro a3 a4 a5 S mS FS p0_ p1_ p2_ p3_ p4_ p5_ m_; exfalso; omega
  | succ n ih =>
    intro a3 a4 a5 S mS FS p0_ p1_ p2_ p3_ p4_ p5_ m_
    unfold gM_identity_61
    have L1_ : (0 : Int32).toInt = 0 := rfl
    have L2_ : (1 : Int32).toInt = 1 := rfl
    refine n_le (fun c3_ => ?_) (fun c3_ => ?_)
    · skip
      refine n_wI (L := 640) mS FS (by first | decide | exact hE _ (by decide) | simp) (by decide) (by decide) rfl (by omega) (by omega) (by omega) (by omega) (fun S4_ mS4_ FS4_ gS4_ hS4_ kS4_ => ?_)
      exact n_rW mS4_ FS4_ trivial
    · skip
      refine n_rJ (L := 16) (by decide) (by omega) (by omega) (fun x25_ x25_e => ?_)
      have L6_ : (16 : Int32).toInt = 16 := rfl
      try have i7_ : ((16 : Int32) * a4).toInt = 16 * a4.toInt := i_mul (n := 16) rfl (by omega) (by omega)
      try have i8_ : (((16 : Int32) * a4) + a5).toInt = ((16 : Int32) * a4).toInt + a5.toInt := i_add (by omega) (by omega)
      refine n_wJ (L := 10240) mS FS (by first | decide | exact hE _ (by decide) | simp) (by decide) (by omega) (by omega) (fun S9_ mS9_ FS9_ gS9_ hS9_ kS9_ => ?_)
      try have i11_ : (a5 + (1 : Int32)).toInt = a5.toInt + (1 : Int32).toInt := i_add (by omega) (by omega)
      refine n_letv (fun x410_ x410_v => ?_)
      have x410_t := congrArg Int32.toInt x410_v
      exact ih a3 a4 x410_ S9_ mS9_ FS9_ (by first | omega | assumption) (by first | omega | assumption) (by first | omega | assumption) (by first | omega | assumption) (by first | omega | assumption) (by first | omega | assumption) (by omega)

-- gM_identity
set_option maxHeartbeats 4000000 in
theorem nM_identity {a1 : Int32} {a2 : Int32} {S : MS} (mS : MI S)  : nJ (NW [0, 20, 21, 4] S (fun (r : Int32) (S' : MS) => True)) (gM_identity a1 a2 S) := by
  unfold gM_identity
  have FS := fM_rf [0, 20, 21, 4] S
  have L1_ : (0 : Int32).toInt = 0 := rfl
  have L2_ : (1 : Int32).toInt = 1 := rfl
  refine n_sI mS FS (by first | decide | exact hE _ (by decide) | simp) rfl (i_lo _) (i_hi _) (fun S3_ mS3_ FS3_ vS3_ gS3_ hS3_ => ?_)
  have q4_ := congrArg Int32.toInt (gS3_ 4 (by decide))
  have r5_ := mi_f mS3_ 4 rfl
  refine n_let ?_
  refine n_sI mS3_ FS3_ (by first | decide | exact hE _ (by decide) | simp) rfl (by omega) (by omega) (fun S6_ mS6_ FS6_ vS6_ gS6_ hS6_ => ?_)
  refine n_cP (nM_instance  mS6_ ) (fun x47_ qx47_ => ?_)
  refine n_lt (fun c8_ => ?_) (fun c8_ => ?_)
  · skip
    exact n_rW mS6_ FS6_ trivial
  · skip
    refine n_rI (L := 40) mS6_ (by decide) rfl (by omega) (by omega) (fun x69_ x69_e x69_l x69_u => ?_)
    have L10_ : (6 : Int32).toInt = 6 := rfl
    refine n_eq (fun c11_ => ?_) (fun c11_ => ?_)
    · skip
      have j12_ := Int32.toInt_toInt64 ((S3_.1 4))
      have L13_ : (2 : Int64).toInt = 2 := rfl
      have L14_ : (16 : Int64).toInt = 16 := rfl
      refine n_cP (nM_in  mS6_ ) (fun x715_ qx715_ => ?_)
      refine n_eq (fun c16_ => ?_) (fun c16_ => ?_)
      · skip
        exact n_rW mS6_ FS6_ trivial
      · skip
        exact nM_identity_61  (by first | decide | (intro k q; exact hE k (by revert q; revert k; decide))) _ _ _ _ _ mS6_ FS6_ (by first | omega | assumption) (by first | omega | assumption) (by first | omega | assumption) (by first | omega | assumption) (by first | omega | assumption) (by first | omega | assumption) (by simp only [sm_fuel_eq]; omega)
    · skip
      exact n_rW mS6_ FS6_ trivial
