-- gM_next_14
set_option maxHeartbeats 4000000 in
theorem nM_next_14 {E : List Nat} {S0 : MS} (hE : ∀ k ∈ [36, 37, 38, 39, 40, 41, 42, 43, 59, 60, 62], k ∈ E) : ∀ (n : Nat) (a1 : Int32) (a2 : Int32) (a3 : Int32) (a4 : Int32) (a5 : Nat) (a6 : Int32) (S : MS), MI S → fM E S0 S → rowL a5 1 17 → a5 ∈ E → 0 ≤ a1.toInt → a1.toInt ≤ 59 → 0 ≤ a2.toInt → a2.toInt ≤ 59 → -1 ≤ a3.toInt → a3.toInt ≤ 39 → 0 ≤ a4.toInt → a4.toInt ≤ 15 → 0 ≤ a6.toInt → a6.toInt ≤ 1200 → 0 ≤ (S.1 49).toInt → 1200 - a6.toInt < (n : Int) → nJ (NW E S0 (fun (r : Unit) (S' : MS) => True)) (gM_next_14 n a1 a2 a3 a4 a5 a6 S) := by
  intro n
  induction n with
  | zero => intro a1 a2 a3 a4 a5 a6 S mS FS hr_a5 he_a5 p0_ p1_ p2_ p3_ p4_ p5_ p6_ p7_ p8_ p9_ p10_ m_; exfalso; omega
  | succ n ih =>
    intro a1 a2 a3 a4 a5 a6 S mS FS hr_a5 he_a5 p0_ p1_ p2_ p3_ p4_ p5_ p6_ p7_ p8_ p9_ p10_ m_
    unfold gM_next_14
    have L1_ : (0 : Int32).toInt = 0 := rfl
    have L2_ : (1 : Int32).toInt = 1 := rfl
    have r3_ := mi_f mS 8 rfl
    refine n_let ?_
    refine n_le (fun c4_ => ?_) (fun c4_ => ?_)
    · skip
      refine n_le (fun c5_ => ?_) (fun c5_ => ?_)
      · skip
        exact nM_next_228  (by first | decide | (intro k q; exact hE k (by revert q; revert k; decide))) _ _ _ _ _ _ _ mS FS hr_a5 (by first | omega | assumption) (by first | omega | assumption) (by first | omega | assumption) (by first | omega | assumption) (by first | omega | assumption) (by first | omega | assumption) (by first | omega | assumption) (by first | omega | assumption) (by simp only [sm_fuel_eq]; omega)
      · skip
        refine n_cW FS (nM_copyName  mS (by first | omega | assumption) (by first | omega | assumption) (by first | omega | assumption) (by first | omega | assumption)) (by first | decide | (intro k q; exact hE k (by revert q; revert k; decide))) (fun v6_ S7_ mS7_ FS7_ fS7_ qv6_ => ?_)
        have L8_ : (130 : Int32).toInt = 130 := rfl
        refine n_wI (L := 60) mS7_ FS7_ (by first | decide | exact hE _ (by decide) | simp) (by decide) (by decide) rfl (by omega) (by omega) (i_lo _) (i_hi _) (fun S9_ mS9_ FS9_ gS9_ hS9_ kS9_ => ?_)
        exact n_rW mS9_ FS9_ trivial
    · skip
      have r10_ := mi_f mS 49 rfl
      exact nM_next_26  (by first | (intro k q; simp at q ⊢; omega) | simp_all) hr_a5 he_a5 (fun k0_ k1_ k2_ S' m' F' c0_ c1_ c2_ c3_ c4_ c5_ => by
          have L1' : (1 : Int32).toInt = 1 := rfl
          exact ih a1 a2 k0_ k1_ a5 k2_ S' m' F' hr_a5 he_a5 (by first | omega | assumption) (by first | omega | assumption) (by first | omega | assumption) (by first | omega | assumption) (by first | omega | assumption) (by first | omega | assumption) (by first | omega | assumption) (by first | omega | assumption) (by first | omega | assumption) (by first | omega | assumption) (by first | omega | assumption) (by omega)) _ _ _ _ _ mS FS (by first | omega | assumption) (by first | omega | assumption) (by first | omega | assumption) (by first | omega | assumption) (by first | omega | assumption) (by first | omega | assumption) (by first | omega | assumption) (by first | omega | assumption) (by first | omega | assumption) (by first | omega | assumption) (by first | omega | assumption) (by first | omega | assumption) (by first | omega | assumption) (by simp only [sm_fuel_eq]; omega)

-- gM_next
set_option maxHeartbeats 4000000 in
theorem nM_next {a1 : Int32} {a2 : Int32} {S : MS} (mS : MI S)  (p0_ : 0 ≤ a1.toInt) (p1_ : a1.toInt ≤ 59) (p2_ : 0 ≤ a2.toInt) (p3_ : a2.toInt ≤ 59) (p4_ : 0 ≤ (S.1 49).toInt) : nJ (NW [36, 37, 38, 39, 40, 41, 42, 43, 59, 60, 61, 62] S (fun (r : Unit) (S' : MS) => True)) (gM_next a1 a2 S) := by
  unfold gM_next
  have FS := fM_rf [36, 37, 38, 39, 40, 41, 42, 43, 59, 60, 61, 62] S
  have L1_ : (0 : Int32).toInt = 0 := rfl
  have L2_ : (1 : Int32).toInt = 1 := rfl
  have L3_ : (-1 : Int32).toInt = -1 := rfl
  have r4_ := mi_f mS 49 rfl
  exact nM_next_14  (by first | decide | (intro k q; exact hE k (by revert q; revert k; decide))) _ _ _ _ _ _ _ _ mS FS (by decide) (by first | decide | exact hE _ (by decide)) (by first | omega | assumption) (by first | omega | assumption) (by first | omega | assumption) (by first | omega | assumption) (by first | omega | assumption) (by first | omega | assumption) (by first | omega | assumption) (by first | omega | assumption) (by first | omega | assumption) (by first | omega | assumption) (by first | omega | assumption) (by simp only [sm_fuel_eq]; omega)

-- gM_around
set_option maxHeartbeats 4000000 in
theorem nM_around {a0 : Int32} {S : MS} (mS : MI S)  : nJ (NP S (fun r : Int32 => True)) (gM_around a0 S) := by
  unfold gM_around
  have L1_ : (0 : Int32).toInt = 0 := rfl
  have L2_ : (1 : Int32).toInt = 1 := rfl
  have L3_ : (128 : Int32).toInt = 128 := rfl
  refine n_le (fun c4_ => ?_) (fun c4_ => ?_)
  · skip
    have L5_ : (256 : Int32).toInt = 256 := rfl
    refine n_le (fun c6_ => ?_) (fun c6_ => ?_)
    · skip
      exact n_rP trivial
    · skip
      exact n_rP trivial
  · skip
    exact n_rP trivial

-- gM_numberSize_15
set_option maxHeartbeats 4000000 in
theorem nM_numberSize_15 : ∀ (n : Nat) (a0 : Int64) (a3 : Int32) (S : MS), MI S → 1 ≤ a3.toInt → a3.toInt ≤ 8 → 8 - a3.toInt < (n : Int) → nJ (NP S (fun r : Int32 => True)) (gM_numberSize_15 n a0 a3 S) := by
  intro n
  induction n with
  | zero => intro a0 a3 S mS p0_ p1_ m_; exfalso; omega
  | succ n ih =>
    intro a0 a3 S mS p0_ p1_ m_
    unfold gM_numberSize_15
    have L1_ : (0 : Int32).toInt = 0 := rfl
    have L2_ : (1 : Int32).toInt = 1 := rfl
    have L3_ : (8 : Int32).toInt = 8 := rfl
    refine n_le (fun c4_ => ?_) (fun c4_ => ?_)
    · skip
      exact n_rP trivial
    · skip
      have L5_ : (0 : Int64).toInt = 0 := rfl
      refine n_l0 (fun c6_ => ?_) (fun c6_ => ?_)
      · skip
        exact n_rP trivial
      · skip
        have L7_ : (-1 : Int64).toInt = -1 := rfl
        refine n_l0 (fun c8_ => ?_) (fun c8_ => ?_)
        · skip
          exact n_rP trivial
        · skip
          try have i10_ : (a3 + (1 : Int32)).toInt = a3.toInt + (1 : Int32).toInt := i_add (by omega) (by omega)
          refine n_letv (fun x19_ x19_v => ?_)
          have x19_t := congrArg Int32.toInt x19_v
          exact ih _ _ _ mS (by first | omega | assumption) (by first | omega | assumption) (by omega)

-- gM_numberSize
set_option maxHeartbeats 4000000 in
theorem nM_numberSize {a0 : Int64} {a2 : Int32} {S : MS} (mS : MI S)  (p0_ : a2.toInt = 0 ∨ a2.toInt = 1) : nJ (NP S (fun r : Int32 => True)) (gM_numberSize a0 a2 S) := by
  unfold gM_numberSize
  have L1_ : (0 : Int32).toInt = 0 := rfl
  have L2_ : (1 : Int32).toInt = 1 := rfl
  refine n_eq (fun c3_ => ?_) (fun c3_ => ?_)
  · skip
    exact n_PP (nM_numberSize_15  _ _ _ _ mS (by first | omega | assumption) (by first | omega | assumption) (by simp only [sm_fuel_eq]; omega)) (fun _ q => by first | exact q | trivial | omega)
  · skip
    have L4_ : (0 : Int64).toInt = 0 := rfl
    refine n_l4 (fun c5_ => ?_) (fun c5_ => ?_)
    · skip
      exact n_PP (nM_numberSize_15  _ _ _ _ mS (by first | omega | assumption) (by first | omega | assumption) (by simp only [sm_fuel_eq]; omega)) (fun _ q => by first | exact q | trivial | omega)
    · skip
      exact n_rP trivial

-- gM_partSize_2
-- E: P
theorem shr63 (a : Int64) {y : Int64} (hy : y.toBitVec.smod 64 = BitVec.ofNat 64 63) : (a >>> y).toInt ≤ 0 := by
  have e : (a >>> y).toInt = (a.toBitVec.sshiftRight 63).toInt := by
    show (a.toBitVec.sshiftRight' (y.toBitVec.smod 64)).toInt = _
    rw [hy]; rfl
  rw [e, BitVec.toInt_sshiftRight, Int.shiftRight_eq_div_pow]
  have h1 : a.toBitVec.toInt < 2 ^ 63 := Int64.toInt_lt a
  omega
set_option maxHeartbeats 4000000 in
theorem nM_partSize_2 : ∀ (n : Nat) (a0 : Int64) (a2 : Int32) (S : MS), MI S → 1 ≤ a2.toInt → a2.toInt ≤ 9 → 9 - a2.toInt < (n : Int) → nJ (NP S (fun r : Int32 => 1 ≤ r.toInt ∧ r.toInt ≤ 9)) (gM_partSize_2 n a0 a2 S) := by
  have J0 : (0 : Int64).toInt = 0 := rfl
  intro n
  induction n with
  | zero => intro a0 a2 S m p0 p1 q; exfalso; omega
  | succ n ih =>
    intro a0 a2 S m p0 p1 q
    unfold gM_partSize_2
    refine n_l2 (fun c => ?_) (fun c => ?_)
    · exact n_rP ⟨p0, p1⟩
    · have h8 : a2.toInt ≤ 8 := by
        rcases Int.lt_or_le a2.toInt 9 with hh | hh
        · omega
        · have e9 : a2 = 9 := Int32.toInt_inj.mp (by rw [show (9 : Int32).toInt = 9 from rfl]; omega)
          subst e9
          have := shr63 a0 (y := ((7 : Int32) * 9).toInt64 &&& 63) (by decide)
          omega
      refine n_letv (fun x1 hx => ?_)
      have i1 : x1.toInt = a2.toInt + 1 := by rw [hx]; exact i_add1 (by omega)
      exact ih _ _ _ m (by omega) (by omega) (by omega)

-- gM_partSize
-- E: P
theorem nM_partSize {a0 : Int64} {S : MS} (mS : MI S) : nJ (NP S (fun r : Int32 => 1 ≤ r.toInt ∧ r.toInt ≤ 9)) (gM_partSize a0 S) := by
  unfold gM_partSize
  exact nM_partSize_2 _ _ _ _ mS (by decide) (by decide) (by simp only [sm_fuel_eq]; decide)

-- gM_nameOctets_5
set_option maxHeartbeats 4000000 in
theorem nM_nameOctets_5 {L_a0 : Nat} : ∀ (n : Nat) (a0 : Nat) (a1 : Int32) (a2 : Int32) (a3 : Int32) (a4 : Int32) (S : MS), MI S → rowL a0 1 L_a0 → 0 ≤ a1.toInt → a1.toInt ≤ 30000 → a1.toInt + a2.toInt ≤ (L_a0 : Int) → a2.toInt ≤ 1200 → 0 ≤ a4.toInt → a4.toInt ≤ 1200 → 1200 - a4.toInt < (n : Int) → nJ (NP S (fun r : Int32 => True)) (gM_nameOctets_5 n a0 a1 a2 a3 a4 S) := by
  intro n
  induction n with
  | zero => intro a0 a1 a2 a3 a4 S mS hr_a0 p0_ p1_ p2_ p3_ p4_ p5_ m_; exfalso; omega
  | succ n ih =>
    intro a0 a1 a2 a3 a4 S mS hr_a0 p0_ p1_ p2_ p3_ p4_ p5_ m_
    unfold gM_nameOctets_5
    have L1_ : (0 : Int32).toInt = 0 := rfl
    have L2_ : (1 : Int32).toInt = 1 := rfl
    refine n_le (fun c3_ => ?_) (fun c3_ => ?_)
    · skip
      exact n_rP trivial
    · skip
      try have i4_ : (a1 + a4).toInt = a1.toInt + a4.toInt := i_add (by omega) (by omega)
      refine n_rJ hr_a0 (by omega) (by omega) (fun x15_ x15_e => ?_)
      refine n_cP (nM_partSize  mS ) (fun x26_ qx26_ => ?_)
      try have i8_ : (a3 + x26_).toInt = a3.toInt + x26_.toInt := i_add (by omega) (by omega)
      refine n_letv (fun x47_ x47_v => ?_)
      have x47_t := congrArg Int32.toInt x47_v
      try have i10_ : (a4 + (1 : Int32)).toInt = a4.toInt + (1 : Int32).toInt := i_add (by omega) (by omega)
      refine n_letv (fun x59_ x59_v => ?_)
      have x59_t := congrArg Int32.toInt x59_v
      exact ih _ _ _ _ _ _ mS hr_a0 (by first | omega | assumption) (by first | omega | assumption) (by first | omega | assumption) (by first | omega | assumption) (by first | omega | assumption) (by first | omega | assumption) (by omega)

-- gM_nameOctets
set_option maxHeartbeats 4000000 in
theorem nM_nameOctets {L_a0 : Nat} {a0 : Nat} {a1 : Int32} {a2 : Int32} {S : MS} (mS : MI S) (hr_a0 : rowL a0 1 L_a0) (p0_ : 0 ≤ a1.toInt) (p1_ : a1.toInt ≤ 30000) (p2_ : a1.toInt + a2.toInt ≤ (L_a0 : Int)) (p3_ : a2.toInt ≤ 1200) : nJ (NP S (fun r : Int32 => True)) (gM_nameOctets a0 a1 a2 S) := by
  unfold gM_nameOctets
  have L1_ : (0 : Int32).toInt = 0 := rfl
  have L2_ : (1 : Int32).toInt = 1 := rfl
  have L3_ : (2 : Int32).toInt = 2 := rfl
  exact n_PP (nM_nameOctets_5 (L_a0 := L_a0) _ _ _ _ _ _ _ mS hr_a0 (by first | omega | assumption) (by first | omega | assumption) (by first | omega | assumption) (by first | omega | assumption) (by first | omega | assumption) (by first | omega | assumption) (by simp only [sm_fuel_eq]; omega)) (fun _ q => by first | exact q | trivial | omega)

-- gM_valueOctets
set_option maxHeartbeats 4000000 in
theorem nM_valueOctets {a1 : Int32} {S : MS} (mS : MI S)  (p0_ : 0 ≤ a1.toInt) (p1_ : a1.toInt ≤ 59) : nJ (NP S (fun r : Int32 => True)) (gM_valueOctets a1 S) := by
  unfold gM_valueOctets
  have L1_ : (0 : Int32).toInt = 0 := rfl
  have L2_ : (1 : Int32).toInt = 1 := rfl
  refine n_rI (L := 60) mS (by decide) rfl (by omega) (by omega) (fun x13_ x13_e x13_l x13_u => ?_)
  have L4_ : (5 : Int32).toInt = 5 := rfl
  refine n_eq (fun c5_ => ?_) (fun c5_ => ?_)
  · skip
    exact n_rP trivial
  · skip
    have L6_ : (127 : Int32).toInt = 127 := rfl
    refine n_le (fun c7_ => ?_) (fun c7_ => ?_)
    · skip
      have L8_ : (4 : Int32).toInt = 4 := rfl
      refine n_eq (fun c9_ => ?_) (fun c9_ => ?_)
      · skip
        refine n_rI (L := 60) mS (by decide) rfl (by omega) (by omega) (fun x1010_ x1010_e x1010_l x1010_u => ?_)
        exact n_rP trivial
      · skip
        have L11_ : (6 : Int32).toInt = 6 := rfl
        refine n_eq (fun c12_ => ?_) (fun c12_ => ?_)
        · skip
          refine n_rI (L := 60) mS (by decide) rfl (by omega) (by omega) (fun x713_ x713_e x713_l x713_u => ?_)
          have L14_ : (16 : Int32).toInt = 16 := rfl
          try have i15_ : ((16 : Int32) * a1).toInt = 16 * a1.toInt := i_mul (n := 16) rfl (by omega) (by omega)
          refine n_cP (nM_nameOctets (L_a0 := 960) mS (by decide) (by first | omega | assumption) (by first | omega | assumption) (by first | omega | assumption) (by first | omega | assumption)) (fun x816_ qx816_ => ?_)
          exact n_rP trivial
        · skip
          have L17_ : (64 : Int32).toInt = 64 := rfl
          refine n_eq (fun c18_ => ?_) (fun c18_ => ?_)
          · skip
            exact n_rP trivial
          · skip
            refine n_rJ (L := 60) (by decide) (by omega) (by omega) (fun x219_ x219_e => ?_)
            have L20_ : (70 : Int32).toInt = 70 := rfl
            refine n_eq (fun c21_ => ?_) (fun c21_ => ?_)
            · skip
              refine n_cP (nM_numberSize  mS (by first | omega | assumption)) (fun x522_ qx522_ => ?_)
              exact n_rP trivial
            · skip
              refine n_cP (nM_numberSize  mS (by first | omega | assumption)) (fun x323_ qx323_ => ?_)
              exact n_rP trivial
    · skip
      exact n_rP trivial

-- gM_rowOctets
set_option maxHeartbeats 4000000 in
theorem nM_rowOctets {a1 : Int32} {S : MS} (mS : MI S)  (p0_ : 0 ≤ a1.toInt) (p1_ : a1.toInt ≤ 59) : nJ (NP S (fun r : Int32 => True)) (gM_rowOctets a1 S) := by
  unfold gM_rowOctets
  have L1_ : (0 : Int32).toInt = 0 := rfl
  have L2_ : (1 : Int32).toInt = 1 := rfl
  refine n_rI (L := 60) mS (by decide) rfl (by omega) (by omega) (fun x13_ x13_e x13_l x13_u => ?_)
  have L4_ : (16 : Int32).toInt = 16 := rfl
  try have i5_ : ((16 : Int32) * a1).toInt = 16 * a1.toInt := i_mul (n := 16) rfl (by omega) (by omega)
  refine n_cP (nM_nameOctets (L_a0 := 960) mS (by decide) (by first | omega | assumption) (by first | omega | assumption) (by first | omega | assumption) (by first | omega | assumption)) (fun x26_ qx26_ => ?_)
  refine n_cP (nM_around  mS ) (fun x47_ qx47_ => ?_)
  refine n_cP (nM_valueOctets  mS (by first | omega | assumption) (by first | omega | assumption)) (fun x68_ qx68_ => ?_)
  refine n_cP (nM_around  mS ) (fun x89_ qx89_ => ?_)
  exact n_rP trivial

-- gM_rowsOctets_5
set_option maxHeartbeats 4000000 in
theorem nM_rowsOctets_5 : ∀ (n : Nat) (a1 : Int32) (a2 : Int32) (a3 : Int32) (a4 : Int32) (S : MS), MI S → 0 ≤ a1.toInt → a1.toInt ≤ 60 → 0 ≤ a2.toInt → a2.toInt ≤ 60 → a1.toInt + a2.toInt ≤ 60 → 0 ≤ a4.toInt → a4.toInt ≤ 60 → 60 - a4.toInt < (n : Int) → nJ (NP S (fun r : Int32 => True)) (gM_rowsOctets_5 n a1 a2 a3 a4 S) := by
  intro n
  induction n with
  | zero => intro a1 a2 a3 a4 S mS p0_ p1_ p2_ p3_ p4_ p5_ p6_ m_; exfalso; omega
  | succ n ih =>
    intro a1 a2 a3 a4 S mS p0_ p1_ p2_ p3_ p4_ p5_ p6_ m_
    unfold gM_rowsOctets_5
    have L1_ : (0 : Int32).toInt = 0 := rfl
    have L2_ : (1 : Int32).toInt = 1 := rfl
    try have i3_ : (a1 + a2).toInt = a1.toInt + a2.toInt := i_add (by omega) (by omega)
    refine n_le (fun c4_ => ?_) (fun c4_ => ?_)
    · skip
      exact n_rP trivial
    · skip
      refine n_cP (nM_rowOctets  mS (by first | omega | assumption) (by first | omega | assumption)) (fun x15_ qx15_ => ?_)
      refine n_cP (nM_around  mS ) (fun x36_ qx36_ => ?_)
      try have i8_ : (a3 + x36_).toInt = a3.toInt + x36_.toInt := i_add (by omega) (by omega)
      refine n_letv (fun x57_ x57_v => ?_)
      have x57_t := congrArg Int32.toInt x57_v
      try have i10_ : (a4 + (1 : Int32)).toInt = a4.toInt + (1 : Int32).toInt := i_add (by omega) (by omega)
      refine n_letv (fun x69_ x69_v => ?_)
      have x69_t := congrArg Int32.toInt x69_v
      exact ih _ _ _ _ _ mS (by first | omega | assumption) (by first | omega | assumption) (by first | omega | assumption) (by first | omega | assumption) (by first | omega | assumption) (by first | omega | assumption) (by first | omega | assumption) (by omega)
