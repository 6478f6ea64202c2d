-- gM_clashes_82
set_option maxHeartbeats 4000000 in
theorem nM_clashes_82 : ∀ (n : Nat) (a1 : Int32) (a2 : Int32) (a3 : Int32) (S : MS), MI S → 0 ≤ a1.toInt → a1.toInt ≤ 16 → a2.toInt = 0 ∨ a2.toInt = 1 → 0 ≤ a3.toInt → a3.toInt ≤ 1200 → 1200 - a3.toInt < (n : Int) → nJ (NP S (fun r : Int32 => r.toInt = 0 ∨ r.toInt = 1)) (gM_clashes_82 n a1 a2 a3 S) := by
  intro n
  induction n with
  | zero => intro a1 a2 a3 S mS p0_ p1_ p2_ p3_ p4_ m_; exfalso; omega
  | succ n ih =>
    intro a1 a2 a3 S mS p0_ p1_ p2_ p3_ p4_ m_
    unfold gM_clashes_82
    have L1_ : (0 : Int32).toInt = 0 := rfl
    have L2_ : (1 : Int32).toInt = 1 := rfl
    have r3_ := mi_f mS 22 rfl
    refine n_let ?_
    refine n_le (fun c4_ => ?_) (fun c4_ => ?_)
    · skip
      rw [if_pos (by first | decide | exact b_of (by omega))]
      exact n_rP (by omega)
    · skip
      refine n_eq (fun c5_ => ?_) (fun c5_ => ?_)
      · skip
        refine n_rI (L := 4) mS (by decide) rfl (by omega) (by omega) (fun x36_ x36_e x36_l x36_u => ?_)
        have L7_ : (16 : Int32).toInt = 16 := rfl
        try have i8_ : ((16 : Int32) * a3).toInt = 16 * a3.toInt := i_mul (n := 16) rfl (by omega) (by omega)
        refine n_cP (nM_begins (L_a0 := 16) (L_a3 := 64) mS (by decide) (by decide) (by first | omega | assumption) (by first | omega | assumption) (by first | omega | assumption) (by first | omega | assumption) (by first | omega | assumption) (by first | omega | assumption) (by first | omega | assumption)) (fun x49_ qx49_ => ?_)
        refine n_eq (fun c10_ => ?_) (fun c10_ => ?_)
        · skip
          refine n_rI (L := 4) mS (by decide) rfl (by omega) (by omega) (fun x711_ x711_e x711_l x711_u => ?_)
          have q12_ : x711_.toInt = x36_.toInt := by rw [x711_e, x36_e]
          refine n_cP (nM_begins (L_a0 := 64) (L_a3 := 16) mS (by decide) (by decide) (by first | omega | assumption) (by first | omega | assumption) (by first | omega | assumption) (by first | omega | assumption) (by first | omega | assumption) (by first | omega | assumption) (by first | omega | assumption)) (fun x813_ qx813_ => ?_)
          refine n_eq (fun c14_ => ?_) (fun c14_ => ?_)
          · skip
            try have i16_ : (a3 + (1 : Int32)).toInt = a3.toInt + (1 : Int32).toInt := i_add (by omega) (by omega)
            refine n_letv (fun x1015_ x1015_v => ?_)
            have x1015_t := congrArg Int32.toInt x1015_v
            exact ih _ _ _ _ mS (by first | omega | assumption) (by first | omega | assumption) (by first | omega | assumption) (by first | omega | assumption) (by first | omega | assumption) (by omega)
          · skip
            try have i18_ : (a3 + (1 : Int32)).toInt = a3.toInt + (1 : Int32).toInt := i_add (by omega) (by omega)
            refine n_letv (fun x1117_ x1117_v => ?_)
            have x1117_t := congrArg Int32.toInt x1117_v
            exact ih _ _ _ _ mS (by first | omega | assumption) (by first | omega | assumption) (by first | omega | assumption) (by first | omega | assumption) (by first | omega | assumption) (by omega)
        · skip
          try have i20_ : (a3 + (1 : Int32)).toInt = a3.toInt + (1 : Int32).toInt := i_add (by omega) (by omega)
          refine n_letv (fun x619_ x619_v => ?_)
          have x619_t := congrArg Int32.toInt x619_v
          exact ih _ _ _ _ mS (by first | omega | assumption) (by first | omega | assumption) (by first | omega | assumption) (by first | omega | assumption) (by first | omega | assumption) (by omega)
      · skip
        try have i22_ : (a3 + (1 : Int32)).toInt = a3.toInt + (1 : Int32).toInt := i_add (by omega) (by omega)
        refine n_letv (fun x221_ x221_v => ?_)
        have x221_t := congrArg Int32.toInt x221_v
        exact ih _ _ _ _ mS (by first | omega | assumption) (by first | omega | assumption) (by first | omega | assumption) (by first | omega | assumption) (by first | omega | assumption) (by omega)

-- gM_clashes_4
set_option maxHeartbeats 4000000 in
theorem nM_clashes_4 : ∀ (n : Nat) (a1 : Int32) (a2 : Int32) (a3 : Int32) (S : MS), MI S → 0 ≤ a1.toInt → a1.toInt ≤ 16 → a2.toInt = 0 ∨ a2.toInt = 1 → 0 ≤ a3.toInt → a3.toInt ≤ 1200 → 1200 - a3.toInt < (n : Int) → nJ (NP S (fun r : Int32 => r.toInt = 0 ∨ r.toInt = 1)) (gM_clashes_4 n a1 a2 a3 S) := by
  intro n
  induction n with
  | zero => intro a1 a2 a3 S mS p0_ p1_ p2_ p3_ p4_ m_; exfalso; omega
  | succ n ih =>
    intro a1 a2 a3 S mS p0_ p1_ p2_ p3_ p4_ m_
    unfold gM_clashes_4
    have L1_ : (0 : Int32).toInt = 0 := rfl
    have L2_ : (1 : Int32).toInt = 1 := rfl
    have r3_ := mi_f mS 8 rfl
    refine n_let ?_
    refine n_le (fun c4_ => ?_) (fun c4_ => ?_)
    · skip
      exact n_PP (nM_clashes_82  _ _ _ _ _ mS (by first | omega | assumption) (by first | omega | assumption) (by first | omega | assumption) (by first | omega | assumption) (by first | omega | assumption) (by simp only [sm_fuel_eq]; omega)) (fun _ q => by first | exact q | trivial | omega)
    · skip
      refine n_eq (fun c5_ => ?_) (fun c5_ => ?_)
      · skip
        refine n_rI (L := 40) mS (by decide) rfl (by omega) (by omega) (fun x36_ x36_e x36_l x36_u => ?_)
        have L7_ : (16 : Int32).toInt = 16 := rfl
        try have i8_ : ((16 : Int32) * a3).toInt = 16 * a3.toInt := i_mul (n := 16) rfl (by omega) (by omega)
        refine n_cP (nM_begins (L_a0 := 16) (L_a3 := 640) mS (by decide) (by decide) (by first | omega | assumption) (by first | omega | assumption) (by first | omega | assumption) (by first | omega | assumption) (by first | omega | assumption) (by first | omega | assumption) (by first | omega | assumption)) (fun x49_ qx49_ => ?_)
        refine n_eq (fun c10_ => ?_) (fun c10_ => ?_)
        · skip
          refine n_rI (L := 40) mS (by decide) rfl (by omega) (by omega) (fun x711_ x711_e x711_l x711_u => ?_)
          have q12_ : x711_.toInt = x36_.toInt := by rw [x711_e, x36_e]
          refine n_cP (nM_begins (L_a0 := 640) (L_a3 := 16) mS (by decide) (by decide) (by first | omega | assumption) (by first | omega | assumption) (by first | omega | assumption) (by first | omega | assumption) (by first | omega | assumption) (by first | omega | assumption) (by first | omega | assumption)) (fun x813_ qx813_ => ?_)
          refine n_eq (fun c14_ => ?_) (fun c14_ => ?_)
          · skip
            try have i16_ : (a3 + (1 : Int32)).toInt = a3.toInt + (1 : Int32).toInt := i_add (by omega) (by omega)
            refine n_letv (fun x1015_ x1015_v => ?_)
            have x1015_t := congrArg Int32.toInt x1015_v
            exact ih _ _ _ _ mS (by first | omega | assumption) (by first | omega | assumption) (by first | omega | assumption) (by first | omega | assumption) (by first | omega | assumption) (by omega)
          · skip
            try have i18_ : (a3 + (1 : Int32)).toInt = a3.toInt + (1 : Int32).toInt := i_add (by omega) (by omega)
            refine n_letv (fun x1117_ x1117_v => ?_)
            have x1117_t := congrArg Int32.toInt x1117_v
            exact ih _ _ _ _ mS (by first | omega | assumption) (by first | omega | assumption) (by first | omega | assumption) (by first | omega | assumption) (by first | omega | assumption) (by omega)
        · skip
          try have i20_ : (a3 + (1 : Int32)).toInt = a3.toInt + (1 : Int32).toInt := i_add (by omega) (by omega)
          refine n_letv (fun x619_ x619_v => ?_)
          have x619_t := congrArg Int32.toInt x619_v
          exact ih _ _ _ _ mS (by first | omega | assumption) (by first | omega | assumption) (by first | omega | assumption) (by first | omega | assumption) (by first | omega | assumption) (by omega)
      · skip
        try have i22_ : (a3 + (1 : Int32)).toInt = a3.toInt + (1 : Int32).toInt := i_add (by omega) (by omega)
        refine n_letv (fun x221_ x221_v => ?_)
        have x221_t := congrArg Int32.toInt x221_v
        exact ih _ _ _ _ mS (by first | omega | assumption) (by first | omega | assumption) (by first | omega | assumption) (by first | omega | assumption) (by first | omega | assumption) (by omega)

-- gM_clashes
set_option maxHeartbeats 4000000 in
theorem nM_clashes {a1 : Int32} {S : MS} (mS : MI S)  (p0_ : 0 ≤ a1.toInt) (p1_ : a1.toInt ≤ 16) : nJ (NP S (fun r : Int32 => r.toInt = 0 ∨ r.toInt = 1)) (gM_clashes a1 S) := by
  unfold gM_clashes
  have L1_ : (0 : Int32).toInt = 0 := rfl
  have L2_ : (1 : Int32).toInt = 1 := rfl
  exact n_PP (nM_clashes_4  _ _ _ _ _ mS (by first | omega | assumption) (by first | omega | assumption) (by first | omega | assumption) (by first | omega | assumption) (by first | omega | assumption) (by simp only [sm_fuel_eq]; omega)) (fun _ q => by first | exact q | trivial | omega)

-- gM_isTag
set_option maxHeartbeats 4000000 in
theorem nM_isTag {a0 : Int32} {S : MS} (mS : MI S)  : nJ (NP S (fun r : Int32 => r.toInt = 0 ∨ r.toInt = 1)) (gM_isTag a0 S) := by
  unfold gM_isTag
  have L1_ : (0 : Int32).toInt = 0 := rfl
  have L2_ : (1 : Int32).toInt = 1 := rfl
  have L3_ : (2 : Int32).toInt = 2 := rfl
  refine n_eq (fun c4_ => ?_) (fun c4_ => ?_)
  · skip
    exact n_rP (by omega)
  · skip
    have L5_ : (4 : Int32).toInt = 4 := rfl
    refine n_eq (fun c6_ => ?_) (fun c6_ => ?_)
    · skip
      exact n_rP (by omega)
    · skip
      have L7_ : (6 : Int32).toInt = 6 := rfl
      refine n_eq (fun c8_ => ?_) (fun c8_ => ?_)
      · skip
        exact n_rP (by omega)
      · skip
        have j9_ := Int32.toInt_toInt64 (a0)
        have L10_ : (64 : Int64).toInt = 64 := rfl
        have L11_ : (67 : Int64).toInt = 67 := rfl
        refine n_cP (nM_in  mS ) (fun x112_ qx112_ => ?_)
        refine n_eq (fun c13_ => ?_) (fun c13_ => ?_)
        · skip
          have L14_ : (70 : Int32).toInt = 70 := rfl
          refine n_eq (fun c15_ => ?_) (fun c15_ => ?_)
          · skip
            exact n_rP (by omega)
          · skip
            exact n_rP (by omega)
        · skip
          exact n_rP (by omega)

-- gM_first
set_option maxHeartbeats 4000000 in
theorem nM_first {a1 : Int32} {a2 : Int32} {S : MS} (mS : MI S)  (p0_ : 0 ≤ a1.toInt) (p1_ : a1.toInt ≤ 39) (p2_ : 0 ≤ a2.toInt) (p3_ : a2.toInt ≤ 15) : nJ (NW [17, 19, 20, 21] S (fun (r : Unit) (S' : MS) => True)) (gM_first a1 a2 S) := by
  unfold gM_first
  have FS := fM_rf [17, 19, 20, 21] S
  have L1_ : (0 : Int32).toInt = 0 := rfl
  have L2_ : (1 : Int32).toInt = 1 := rfl
  have L3_ : (16 : Int32).toInt = 16 := rfl
  try have i4_ : ((16 : Int32) * a1).toInt = 16 * a1.toInt := i_mul (n := 16) rfl (by omega) (by omega)
  try have i5_ : (((16 : Int32) * a1) + a2).toInt = ((16 : Int32) * a1).toInt + a2.toInt := i_add (by omega) (by omega)
  refine n_wJ (L := 640) mS FS (by first | decide | exact hE _ (by decide) | simp) (by decide) (by omega) (by omega) (fun S6_ mS6_ FS6_ gS6_ hS6_ kS6_ => ?_)
  refine n_wI (L := 640) mS6_ FS6_ (by first | decide | exact hE _ (by decide) | simp) (by decide) (by decide) rfl (by omega) (by omega) (by omega) (by omega) (fun S7_ mS7_ FS7_ gS7_ hS7_ kS7_ => ?_)
  have L8_ : (2 : Int32).toInt = 2 := rfl
  refine n_wI (L := 640) mS7_ FS7_ (by first | decide | exact hE _ (by decide) | simp) (by decide) (by decide) rfl (by omega) (by omega) (by omega) (by omega) (fun S9_ mS9_ FS9_ gS9_ hS9_ kS9_ => ?_)
  have L10_ : (256 : Int32).toInt = 256 := rfl
  try have i11_ : ((256 : Int32) * a1).toInt = 256 * a1.toInt := i_mul (n := 256) rfl (by omega) (by omega)
  try have i12_ : ((16 : Int32) * a2).toInt = 16 * a2.toInt := i_mul (n := 16) rfl (by omega) (by omega)
  try have i13_ : (((256 : Int32) * a1) + ((16 : Int32) * a2)).toInt = ((256 : Int32) * a1).toInt + ((16 : Int32) * a2).toInt := i_add (by omega) (by omega)
  refine n_wJ (L := 10240) mS9_ FS9_ (by first | decide | exact hE _ (by decide) | simp) (by decide) (by omega) (by omega) (fun S14_ mS14_ FS14_ gS14_ hS14_ kS14_ => ?_)
  try have i15_ : ((((256 : Int32) * a1) + ((16 : Int32) * a2)) + (1 : Int32)).toInt = (((256 : Int32) * a1) + ((16 : Int32) * a2)).toInt + (1 : Int32).toInt := i_add (by omega) (by omega)
  refine n_wJ (L := 10240) mS14_ FS14_ (by first | decide | exact hE _ (by decide) | simp) (by decide) (by omega) (by omega) (fun S16_ mS16_ FS16_ gS16_ hS16_ kS16_ => ?_)
  exact n_rW mS16_ FS16_ trivial

-- gM_newObject_60
set_option maxHeartbeats 4000000 in
theorem nM_newObject_60 {E : List Nat} {S0 : MS} (hE : ∀ k ∈ [17, 19, 20, 21, 8], k ∈ E) : ∀ (n : Nat) (a9 : Int32) (a10 : Int32) (S : MS), MI S → fM E S0 S → 0 ≤ a9.toInt → a9.toInt ≤ 39 → 0 ≤ a10.toInt → a10.toInt ≤ 16 → (S.1 8).toInt ≤ 39 → (S.1 8).toInt = (S0.1 8).toInt → 16 - a10.toInt < (n : Int) → nJ (NW E S0 (fun (r : Int32) (S' : MS) => (S'.1 8).toInt = (S0.1 8).toInt + 1)) (gM_newObject_60 n a9 a10 S) := by
  intro n
  induction n with
  | zero => intro a9 a10 S mS FS p0_ p1_ p2_ p3_ p4_ p5_ m_; exfalso; omega
  | succ n ih =>
    intro a9 a10 S mS FS p0_ p1_ p2_ p3_ p4_ p5_ m_
    unfold gM_newObject_60
    have L1_ : (0 : Int32).toInt = 0 := rfl
    have L2_ : (1 : Int32).toInt = 1 := rfl
    have L3_ : (16 : Int32).toInt = 16 := rfl
    refine n_le (fun c4_ => ?_) (fun c4_ => ?_)
    · skip
      have r5_ := mi_f mS 8 rfl
      refine n_let ?_
      try have i6_ : ((S.1 8) + (1 : Int32)).toInt = (S.1 8).toInt + (1 : Int32).toInt := i_add (by omega) (by omega)
      refine n_sI mS FS (by first | decide | exact hE _ (by decide) | simp) rfl (by omega) (by omega) (fun S7_ mS7_ FS7_ vS7_ gS7_ hS7_ => ?_)
      have q8_ := congrArg Int32.toInt vS7_
      have r9_ := mi_f mS7_ 8 rfl
      exact n_rW mS7_ FS7_ (by omega)
    · skip
      refine n_cW FS (nM_first  mS (by first | omega | assumption) (by first | omega | assumption) (by first | omega | assumption) (by first | omega | assumption)) (by first | decide | (intro k q; exact hE k (by revert q; revert k; decide))) (fun v10_ S11_ mS11_ FS11_ fS11_ qv10_ => ?_)
      have q12_ := congrArg Int32.toInt (fS11_.1 8 (by decide))
      try have i14_ : (a10 + (1 : Int32)).toInt = a10.toInt + (1 : Int32).toInt := i_add (by omega) (by omega)
      refine n_letv (fun x513_ x513_v => ?_)
      have x513_t := congrArg Int32.toInt x513_v
      have r15_ := mi_f mS11_ 8 rfl
      exact ih a9 x513_ S11_ mS11_ FS11_ (by first | omega | assumption) (by first | omega | assumption) (by first | omega | assumption) (by first | omega | assumption) (by first | omega | assumption) (by first | omega | assumption) (by omega)

-- gM_newObject
set_option maxHeartbeats 4000000 in
theorem nM_newObject {a1 : Int32} {a2 : Int32} {a3 : Int64} {a5 : Int64} {a7 : Int32} {a8 : Int32} {S : MS} (mS : MI S)  (p0_ : -1 ≤ a7.toInt) (p1_ : a7.toInt ≤ 3) (p2_ : a8.toInt = 0 ∨ a8.toInt = 1) (p3_ : (S.1 8).toInt ≤ 39) : nJ (NW [11, 12, 13, 14, 15, 16, 17, 19, 20, 21, 8] S (fun (r : Int32) (S' : MS) => (S'.1 8).toInt = (S.1 8).toInt + 1)) (gM_newObject a1 a2 a3 a5 a7 a8 S) := by
  unfold gM_newObject
  have FS := fM_rf [11, 12, 13, 14, 15, 16, 17, 19, 20, 21, 8] S
  have L1_ : (0 : Int32).toInt = 0 := rfl
  have L2_ : (1 : Int32).toInt = 1 := rfl
  have r3_ := mi_f mS 8 rfl
  refine n_let ?_
  refine n_wI (L := 40) mS FS (by first | decide | exact hE _ (by decide) | simp) (by decide) (by decide) rfl (by omega) (by omega) (i_lo _) (i_hi _) (fun S4_ mS4_ FS4_ gS4_ hS4_ kS4_ => ?_)
  have q5_ := congrArg Int32.toInt (congrFun gS4_ 8)
  refine n_wI (L := 40) mS4_ FS4_ (by first | decide | exact hE _ (by decide) | simp) (by decide) (by decide) rfl (by omega) (by omega) (i_lo _) (i_hi _) (fun S6_ mS6_ FS6_ gS6_ hS6_ kS6_ => ?_)
  have q7_ := congrArg Int32.toInt (congrFun gS6_ 8)
  refine n_wJ (L := 40) mS6_ FS6_ (by first | decide | exact hE _ (by decide) | simp) (by decide) (by omega) (by omega) (fun S8_ mS8_ FS8_ gS8_ hS8_ kS8_ => ?_)
  have q9_ := congrArg Int32.toInt (congrFun gS8_ 8)
  refine n_wJ (L := 40) mS8_ FS8_ (by first | decide | exact hE _ (by decide) | simp) (by decide) (by omega) (by omega) (fun S10_ mS10_ FS10_ gS10_ hS10_ kS10_ => ?_)
  have q11_ := congrArg Int32.toInt (congrFun gS10_ 8)
  refine n_wI (L := 40) mS10_ FS10_ (by first | decide | exact hE _ (by decide) | simp) (by decide) (by decide) rfl (by omega) (by omega) (by omega) (by omega) (fun S12_ mS12_ FS12_ gS12_ hS12_ kS12_ => ?_)
  have q13_ := congrArg Int32.toInt (congrFun gS12_ 8)
  have j14_ := nar_r (x := a8) (by omega)
  refine n_wI (L := 40) mS12_ FS12_ (by first | decide | exact hE _ (by decide) | simp) (by decide) (by decide) rfl (by omega) (by omega) (by omega) (by omega) (fun S15_ mS15_ FS15_ gS15_ hS15_ kS15_ => ?_)
  have q16_ := congrArg Int32.toInt (congrFun gS15_ 8)
  have r17_ := mi_f mS15_ 8 rfl
  exact nM_newObject_60  (by first | decide | (intro k q; exact hE k (by revert q; revert k; decide))) _ _ _ _ mS15_ FS15_ (by first | omega | assumption) (by first | omega | assumption) (by first | omega | assumption) (by first | omega | assumption) (by first | omega | assumption) (by first | omega | assumption) (by simp only [sm_fuel_eq]; omega)
