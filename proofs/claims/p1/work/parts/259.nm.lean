-- gM_inView
set_option maxHeartbeats 4000000 in
theorem nM_inView {L_a1 : Nat} {a1 : Nat} {a2 : Int32} {a3 : Int32} {S : MS} (mS : MI S) (hr_a1 : rowL a1 1 L_a1) (p0_ : 0 ≤ a2.toInt) (p1_ : a2.toInt ≤ 30000) (p2_ : 0 ≤ a3.toInt) (p3_ : a3.toInt ≤ 1200) (p4_ : a2.toInt + a3.toInt ≤ (L_a1 : Int)) (p5_ : 0 ≤ (S.1 49).toInt) : nJ (NP S (fun r : Int32 => r.toInt = 0 ∨ r.toInt = 1)) (gM_inView a1 a2 a3 S) := by
  unfold gM_inView
  have L1_ : (0 : Int32).toInt = 0 := rfl
  have L2_ : (1 : Int32).toInt = 1 := rfl
  have r3_ := mi_f mS 49 rfl
  refine n_let ?_
  have L5_ : (8 : Int32).toInt = 8 := rfl
  try have i6_ : ((8 : Int32) * (S.1 49)).toInt = 8 * (S.1 49).toInt := i_mul (n := 8) rfl (by omega) (by omega)
  refine n_letv (fun x24_ x24_v => ?_)
  have x24_t := congrArg Int32.toInt x24_v
  have L7_ : (-1 : Int32).toInt = -1 := rfl
  exact n_PP (nM_inView_12 (L_a1 := L_a1) _ _ _ _ _ _ _ mS hr_a1 (by first | omega | assumption) (by first | omega | assumption) (by first | omega | assumption) (by first | omega | assumption) (by first | omega | assumption) (by first | omega | assumption) (by first | omega | assumption) (by first | omega | assumption) (by first | omega | assumption) (by first | omega | assumption) (by simp only [sm_fuel_eq]; omega)) (fun _ q => by first | exact q | trivial | omega)

-- gM_nameOf_2
set_option maxHeartbeats 4000000 in
theorem nM_nameOf_2 {E : List Nat} {S0 : MS} (hE : ∀ k ∈ [59, 60], k ∈ E) : ∀ (n : Nat) (a1 : Int32) (a2 : Int32) (a3 : Int32) (S : MS), MI S → fM E S0 S → 0 ≤ a1.toInt → a1.toInt ≤ 39 → 0 ≤ a2.toInt → a2.toInt ≤ 15 → 0 ≤ a3.toInt → a3.toInt ≤ 16 → 16 - a3.toInt < (n : Int) → nJ (NW E S0 (fun (r : Unit) (S' : MS) => True)) (gM_nameOf_2 n a1 a2 a3 S) := by
  intro n
  induction n with
  | zero => intro a1 a2 a3 S mS FS p0_ p1_ p2_ p3_ p4_ p5_ m_; exfalso; omega
  | succ n ih =>
    intro a1 a2 a3 S mS FS p0_ p1_ p2_ p3_ p4_ p5_ m_
    unfold gM_nameOf_2
    have L1_ : (0 : Int32).toInt = 0 := rfl
    have L2_ : (1 : Int32).toInt = 1 := rfl
    refine n_rI (L := 40) mS (by decide) rfl (by omega) (by omega) (fun x13_ x13_e x13_l x13_u => ?_)
    refine n_le (fun c4_ => ?_) (fun c4_ => ?_)
    · skip
      refine n_rI (L := 40) mS (by decide) rfl (by omega) (by omega) (fun x25_ x25_e x25_l x25_u => ?_)
      have q6_ : x25_.toInt = x13_.toInt := by rw [x25_e, x13_e]
      refine n_rI (L := 40) mS (by decide) rfl (by omega) (by omega) (fun x37_ x37_e x37_l x37_u => ?_)
      refine n_le (fun c8_ => ?_) (fun c8_ => ?_)
      · skip
        refine n_rI (L := 40) mS (by decide) rfl (by omega) (by omega) (fun x49_ x49_e x49_l x49_u => ?_)
        have q10_ : x49_.toInt = x37_.toInt := by rw [x49_e, x37_e]
        have L11_ : (16 : Int32).toInt = 16 := rfl
        try have i12_ : ((16 : Int32) * x49_).toInt = 16 * x49_.toInt := i_mul (n := 16) rfl (by omega) (by omega)
        try have i13_ : (((16 : Int32) * x49_) + a2).toInt = ((16 : Int32) * x49_).toInt + a2.toInt := i_add (by omega) (by omega)
        refine n_rI (L := 64) mS (by decide) rfl (by omega) (by omega) (fun x514_ x514_e x514_l x514_u => ?_)
        have j15_ := Int32.toInt_toInt64 (x514_)
        unfold gM_nameOf_75
        refine n_wJ (L := 17) mS FS (by first | decide | exact hE _ (by decide) | simp) (by decide) (by omega) (by omega) (fun S16_ mS16_ FS16_ gS16_ hS16_ kS16_ => ?_)
        refine n_rI (L := 40) mS16_ (by decide) rfl (by omega) (by omega) (fun x217_ x217_e x217_l x217_u => ?_)
        try have i18_ : (x217_ + (1 : Int32)).toInt = x217_.toInt + (1 : Int32).toInt := i_add (by omega) (by omega)
        refine n_sI mS16_ FS16_ (by first | decide | exact hE _ (by decide) | simp) rfl (by omega) (by omega) (fun S19_ mS19_ FS19_ vS19_ gS19_ hS19_ => ?_)
        exact n_rW mS19_ FS19_ trivial
      · skip
        have L20_ : (0 : Int64).toInt = 0 := rfl
        unfold gM_nameOf_75
        refine n_wJ (L := 17) mS FS (by first | decide | exact hE _ (by decide) | simp) (by decide) (by omega) (by omega) (fun S21_ mS21_ FS21_ gS21_ hS21_ kS21_ => ?_)
        refine n_rI (L := 40) mS21_ (by decide) rfl (by omega) (by omega) (fun x222_ x222_e x222_l x222_u => ?_)
        try have i23_ : (x222_ + (1 : Int32)).toInt = x222_.toInt + (1 : Int32).toInt := i_add (by omega) (by omega)
        refine n_sI mS21_ FS21_ (by first | decide | exact hE _ (by decide) | simp) rfl (by omega) (by omega) (fun S24_ mS24_ FS24_ vS24_ gS24_ hS24_ => ?_)
        exact n_rW mS24_ FS24_ trivial
    · skip
      have L25_ : (16 : Int32).toInt = 16 := rfl
      try have i26_ : ((16 : Int32) * a1).toInt = 16 * a1.toInt := i_mul (n := 16) rfl (by omega) (by omega)
      try have i27_ : (((16 : Int32) * a1) + a3).toInt = ((16 : Int32) * a1).toInt + a3.toInt := i_add (by omega) (by omega)
      refine n_rJ (L := 640) (by decide) (by omega) (by omega) (fun x628_ x628_e => ?_)
      refine n_wJ (L := 17) mS FS (by first | decide | exact hE _ (by decide) | simp) (by decide) (by omega) (by omega) (fun S29_ mS29_ FS29_ gS29_ hS29_ kS29_ => ?_)
      try have i31_ : (a3 + (1 : Int32)).toInt = a3.toInt + (1 : Int32).toInt := i_add (by omega) (by omega)
      refine n_letv (fun x830_ x830_v => ?_)
      have x830_t := congrArg Int32.toInt x830_v
      exact ih a1 a2 x830_ S29_ mS29_ FS29_ (by first | omega | assumption) (by first | omega | assumption) (by first | omega | assumption) (by first | omega | assumption) (by first | omega | assumption) (by first | omega | assumption) (by omega)

-- gM_nameOf
set_option maxHeartbeats 4000000 in
theorem nM_nameOf {a1 : Int32} {a2 : Int32} {S : MS} (mS : MI S)  (p0_ : 0 ≤ a1.toInt) (p1_ : a1.toInt ≤ 39) (p2_ : 0 ≤ a2.toInt) (p3_ : a2.toInt ≤ 15) : nJ (NW [59, 60] S (fun (r : Unit) (S' : MS) => True)) (gM_nameOf a1 a2 S) := by
  unfold gM_nameOf
  have FS := fM_rf [59, 60] S
  have L1_ : (0 : Int32).toInt = 0 := rfl
  have L2_ : (1 : Int32).toInt = 1 := rfl
  exact nM_nameOf_2  (by first | decide | (intro k q; exact hE k (by revert q; revert k; decide))) _ _ _ _ _ mS FS (by first | omega | assumption) (by first | omega | assumption) (by first | omega | assumption) (by first | omega | assumption) (by first | omega | assumption) (by first | omega | assumption) (by simp only [sm_fuel_eq]; omega)

-- gM_isThere
set_option maxHeartbeats 4000000 in
theorem nM_isThere {a1 : Int32} {a2 : Int32} {S : MS} (mS : MI S)  (p0_ : 0 ≤ a1.toInt) (p1_ : a1.toInt ≤ 39) (p2_ : 0 ≤ a2.toInt) (p3_ : a2.toInt ≤ 15) : nJ (NP S (fun r : Int32 => r.toInt = 0 ∨ r.toInt = 1)) (gM_isThere a1 a2 S) := by
  unfold gM_isThere
  have L1_ : (0 : Int32).toInt = 0 := rfl
  have L2_ : (1 : Int32).toInt = 1 := rfl
  refine n_rI (L := 40) mS (by decide) rfl (by omega) (by omega) (fun x13_ x13_e x13_l x13_u => ?_)
  refine n_le (fun c4_ => ?_) (fun c4_ => ?_)
  · skip
    refine n_rI (L := 40) mS (by decide) rfl (by omega) (by omega) (fun x25_ x25_e x25_l x25_u => ?_)
    have q6_ : x25_.toInt = x13_.toInt := by rw [x25_e, x13_e]
    have L7_ : (16 : Int32).toInt = 16 := rfl
    try have i8_ : ((16 : Int32) * x25_).toInt = 16 * x25_.toInt := i_mul (n := 16) rfl (by omega) (by omega)
    try have i9_ : (((16 : Int32) * x25_) + a2).toInt = ((16 : Int32) * x25_).toInt + a2.toInt := i_add (by omega) (by omega)
    refine n_rI (L := 64) mS (by decide) rfl (by omega) (by omega) (fun x310_ x310_e x310_l x310_u => ?_)
    refine n_le (fun c11_ => ?_) (fun c11_ => ?_)
    · skip
      exact n_rP (by omega)
    · skip
      exact n_rP (by omega)
  · skip
    refine n_eq (fun c12_ => ?_) (fun c12_ => ?_)
    · skip
      exact n_rP (by omega)
    · skip
      exact n_rP (by omega)

-- gM_objectOf_3
set_option maxHeartbeats 4000000 in
theorem nM_objectOf_3 {L_a1 : Nat} : ∀ (n : Nat) (a1 : Nat) (a2 : Int32) (a3 : Int32) (a4 : Int32) (a5 : Int32) (S : MS), MI S → rowL a1 1 L_a1 → 0 ≤ a2.toInt → a2.toInt ≤ 30000 → 0 ≤ a3.toInt → a3.toInt ≤ 1200 → a2.toInt + a3.toInt ≤ (L_a1 : Int) → 0 ≤ a5.toInt → a5.toInt ≤ 1200 → 1200 - a5.toInt < (n : Int) → nJ (NP S (fun r : Int32 => -1 ≤ r.toInt ∧ r.toInt ≤ 39)) (gM_objectOf_3 n a1 a2 a3 a4 a5 S) := by
  intro n
  induction n with
  | zero => intro a1 a2 a3 a4 a5 S mS hr_a1 p0_ p1_ p2_ p3_ p4_ p5_ p6_ m_; exfalso; omega
  | succ n ih =>
    intro a1 a2 a3 a4 a5 S mS hr_a1 p0_ p1_ p2_ p3_ p4_ p5_ p6_ m_
    unfold gM_objectOf_3
    have L1_ : (0 : Int32).toInt = 0 := rfl
    have L2_ : (1 : Int32).toInt = 1 := rfl
    have r3_ := mi_f mS 8 rfl
    refine n_let ?_
    refine n_le (fun c4_ => ?_) (fun c4_ => ?_)
    · skip
      have L5_ : (-1 : Int32).toInt = -1 := rfl
      exact n_rP (by omega)
    · skip
      refine n_rI (L := 40) mS (by decide) rfl (by omega) (by omega) (fun x26_ x26_e x26_l x26_u => ?_)
      refine n_lt (fun c7_ => ?_) (fun c7_ => ?_)
      · skip
        try have i9_ : (a5 + (1 : Int32)).toInt = a5.toInt + (1 : Int32).toInt := i_add (by omega) (by omega)
        refine n_letv (fun x38_ x38_v => ?_)
        have x38_t := congrArg Int32.toInt x38_v
        exact ih _ _ _ _ _ _ mS hr_a1 (by first | omega | assumption) (by first | omega | assumption) (by first | omega | assumption) (by first | omega | assumption) (by first | omega | assumption) (by first | omega | assumption) (by first | omega | assumption) (by omega)
      · skip
        refine n_rI (L := 40) mS (by decide) rfl (by omega) (by omega) (fun x410_ x410_e x410_l x410_u => ?_)
        have L11_ : (16 : Int32).toInt = 16 := rfl
        try have i12_ : ((16 : Int32) * a5).toInt = 16 * a5.toInt := i_mul (n := 16) rfl (by omega) (by omega)
        refine n_cP (nM_begins (L_a0 := L_a1) (L_a3 := 640) mS hr_a1 (by decide) (by first | omega | assumption) (by first | omega | assumption) (by first | omega | assumption) (by first | omega | assumption) (by first | omega | assumption) (by first | omega | assumption) (by first | omega | assumption)) (fun x513_ qx513_ => ?_)
        refine n_eq (fun c14_ => ?_) (fun c14_ => ?_)
        · skip
          try have i16_ : (a5 + (1 : Int32)).toInt = a5.toInt + (1 : Int32).toInt := i_add (by omega) (by omega)
          refine n_letv (fun x715_ x715_v => ?_)
          have x715_t := congrArg Int32.toInt x715_v
          exact ih _ _ _ _ _ _ mS hr_a1 (by first | omega | assumption) (by first | omega | assumption) (by first | omega | assumption) (by first | omega | assumption) (by first | omega | assumption) (by first | omega | assumption) (by first | omega | assumption) (by omega)
        · skip
          exact n_rP (by omega)

-- gM_objectOf
set_option maxHeartbeats 4000000 in
theorem nM_objectOf {L_a1 : Nat} {a1 : Nat} {a2 : Int32} {a3 : Int32} {a4 : Int32} {S : MS} (mS : MI S) (hr_a1 : rowL a1 1 L_a1) (p0_ : 0 ≤ a2.toInt) (p1_ : a2.toInt ≤ 30000) (p2_ : 0 ≤ a3.toInt) (p3_ : a3.toInt ≤ 1200) (p4_ : a2.toInt + a3.toInt ≤ (L_a1 : Int)) : nJ (NP S (fun r : Int32 => -1 ≤ r.toInt ∧ r.toInt ≤ 39)) (gM_objectOf a1 a2 a3 a4 S) := by
  unfold gM_objectOf
  have L1_ : (0 : Int32).toInt = 0 := rfl
  have L2_ : (1 : Int32).toInt = 1 := rfl
  exact n_PP (nM_objectOf_3 (L_a1 := L_a1) _ _ _ _ _ _ _ mS hr_a1 (by first | omega | assumption) (by first | omega | assumption) (by first | omega | assumption) (by first | omega | assumption) (by first | omega | assumption) (by first | omega | assumption) (by first | omega | assumption) (by simp only [sm_fuel_eq]; omega)) (fun _ q => by first | exact q | trivial | omega)

-- gM_copyName_2
set_option maxHeartbeats 4000000 in
theorem nM_copyName_2 {E : List Nat} {S0 : MS} (hE : ∀ k ∈ [36, 37], k ∈ E) : ∀ (n : Nat) (a1 : Int32) (a2 : Int32) (a3 : Int32) (S : MS), MI S → fM E S0 S → 0 ≤ a1.toInt → a1.toInt ≤ 59 → 0 ≤ a2.toInt → a2.toInt ≤ 59 → 0 ≤ a3.toInt → a3.toInt ≤ 16 → 16 - a3.toInt < (n : Int) → nJ (NW E S0 (fun (r : Unit) (S' : MS) => True)) (gM_copyName_2 n a1 a2 a3 S) := by
  intro n
  induction n with
  | zero => intro a1 a2 a3 S mS FS p0_ p1_ p2_ p3_ p4_ p5_ m_; exfalso; omega
  | succ n ih =>
    intro a1 a2 a3 S mS FS p0_ p1_ p2_ p3_ p4_ p5_ m_
    unfold gM_copyName_2
    have L1_ : (0 : Int32).toInt = 0 := rfl
    have L2_ : (1 : Int32).toInt = 1 := rfl
    refine n_rI (L := 60) mS (by decide) rfl (by omega) (by omega) (fun x13_ x13_e x13_l x13_u => ?_)
    refine n_le (fun c4_ => ?_) (fun c4_ => ?_)
    · skip
      refine n_rI (L := 60) mS (by decide) rfl (by omega) (by omega) (fun x25_ x25_e x25_l x25_u => ?_)
      have q6_ : x25_.toInt = x13_.toInt := by rw [x25_e, x13_e]
      refine n_wI (L := 60) mS FS (by first | decide | exact hE _ (by decide) | simp) (by decide) (by decide) rfl (by omega) (by omega) (by omega) (by omega) (fun S7_ mS7_ FS7_ gS7_ hS7_ kS7_ => ?_)
      exact n_rW mS7_ FS7_ trivial
    · skip
      have L8_ : (16 : Int32).toInt = 16 := rfl
      try have i9_ : ((16 : Int32) * a1).toInt = 16 * a1.toInt := i_mul (n := 16) rfl (by omega) (by omega)
      try have i10_ : (((16 : Int32) * a1) + a3).toInt = ((16 : Int32) * a1).toInt + a3.toInt := i_add (by omega) (by omega)
      refine n_rJ (L := 960) (by decide) (by omega) (by omega) (fun x411_ x411_e => ?_)
      try have i12_ : ((16 : Int32) * a2).toInt = 16 * a2.toInt := i_mul (n := 16) rfl (by omega) (by omega)
      try have i13_ : (((16 : Int32) * a2) + a3).toInt = ((16 : Int32) * a2).toInt + a3.toInt := i_add (by omega) (by omega)
      refine n_wJ (L := 960) mS FS (by first | decide | exact hE _ (by decide) | simp) (by decide) (by omega) (by omega) (fun S14_ mS14_ FS14_ gS14_ hS14_ kS14_ => ?_)
      try have i16_ : (a3 + (1 : Int32)).toInt = a3.toInt + (1 : Int32).toInt := i_add (by omega) (by omega)
      refine n_letv (fun x615_ x615_v => ?_)
      have x615_t := congrArg Int32.toInt x615_v
      exact ih a1 a2 x615_ S14_ mS14_ FS14_ (by first | omega | assumption) (by first | omega | assumption) (by first | omega | assumption) (by first | omega | assumption) (by first | omega | assumption) (by first | omega | assumption) (by omega)

-- gM_copyName
set_option maxHeartbeats 4000000 in
theorem nM_copyName {a1 : Int32} {a2 : Int32} {S : MS} (mS : MI S)  (p0_ : 0 ≤ a1.toInt) (p1_ : a1.toInt ≤ 59) (p2_ : 0 ≤ a2.toInt) (p3_ : a2.toInt ≤ 59) : nJ (NW [36, 37] S (fun (r : Unit) (S' : MS) => True)) (gM_copyName a1 a2 S) := by
  unfold gM_copyName
  have FS := fM_rf [36, 37] S
  have L1_ : (0 : Int32).toInt = 0 := rfl
  have L2_ : (1 : Int32).toInt = 1 := rfl
  exact nM_copyName_2  (by first | decide | (intro k q; exact hE k (by revert q; revert k; decide))) _ _ _ _ _ mS FS (by first | omega | assumption) (by first | omega | assumption) (by first | omega | assumption) (by first | omega | assumption) (by first | omega | assumption) (by first | omega | assumption) (by simp only [sm_fuel_eq]; omega)

-- gM_numberOf
set_option maxHeartbeats 4000000 in
theorem nM_numberOf {a1 : Int32} {a2 : Int32} {S : MS} (mS : MI S)  (p0_ : 0 ≤ a1.toInt) (p1_ : a1.toInt ≤ 39) (p2_ : 0 ≤ a2.toInt) (p3_ : a2.toInt ≤ 639) : nJ (NP S (fun r : Int64 => True)) (gM_numberOf a1 a2 S) := by
  unfold gM_numberOf
  have L1_ : (0 : Int32).toInt = 0 := rfl
  have L2_ : (1 : Int32).toInt = 1 := rfl
  refine n_rI (L := 40) mS (by decide) rfl (by omega) (by omega) (fun x13_ x13_e x13_l x13_u => ?_)
  have L4_ : (67 : Int32).toInt = 67 := rfl
  refine n_eq (fun c5_ => ?_) (fun c5_ => ?_)
  · skip
    refine n_rI (L := 40) mS (by decide) rfl (by omega) (by omega) (fun x36_ x36_e x36_l x36_u => ?_)
    refine n_eq (fun c7_ => ?_) (fun c7_ => ?_)
    · skip
      refine n_rI (L := 40) mS (by decide) rfl (by omega) (by omega) (fun x58_ x58_e x58_l x58_u => ?_)
      refine n_le (fun c9_ => ?_) (fun c9_ => ?_)
      · skip
        refine n_rJ (L := 640) (by decide) (by omega) (by omega) (fun x610_ x610_e => ?_)
        exact n_rP trivial
      · skip
        refine n_let ?_
        exact n_rP trivial
    · skip
      refine n_rJ (L := 640) (by decide) (by omega) (by omega) (fun x411_ x411_e => ?_)
      exact n_rP trivial
  · skip
    refine n_rJ (L := 640) (by decide) (by omega) (by omega) (fun x212_ x212_e => ?_)
    exact n_rP trivial

-- gM_tell_108
set_option maxHeartbeats 4000000 in
theorem nM_tell_108 {E : List Nat} {S0 : MS} (hE : ∀ k ∈ [42], k ∈ E) : ∀ (n : Nat) (a1 : Int32) (a4 : Int32) (a5 : Int32) (S : MS), MI S → fM E S0 S → 0 ≤ a1.toInt → a1.toInt ≤ 59 → 0 ≤ a4.toInt → a4.toInt ≤ 639 → 0 ≤ a5.toInt → a5.toInt ≤ 40 → 40 - a5.toInt < (n : Int) → nJ (NW E S0 (fun (r : Unit) (S' : MS) => True)) (gM_tell_108 n a1 a4 a5 S) := by
  intro n
  induction n with
  | zero => intro a1 a4 a5 S mS FS p0_ p1_ p2_ p3_ p4_ p5_ m_; exfalso; omega
  | succ n ih =>
    intro a1 a4 a5 S mS FS p0_ p1_ p2_ p3_ p4_ p5_ m_
    unfold gM_tell_108
    have L1_ : (0 : Int32).toInt = 0 := rfl
    have L2_ : (1 : Int32).toInt = 1 := rfl
    refine n_rI (L := 640) mS (by decide) rfl (by omega) (by omega) (fun x13_ x13_e x13_l x13_u => ?_)
    refine n_le (fun c4_ => ?_) (fun c4_ => ?_)
    · skip
      exact n_rW mS FS trivial
    · skip
      have L5_ : (16 : Int32).toInt = 16 := rfl
      try have i6_ : ((16 : Int32) * a4).toInt = 16 * a4.toInt := i_mul (n := 16) rfl (by omega) (by omega)
      try have i7_ : (((16 : Int32) * a4) + a5).toInt = ((16 : Int32) * a4).toInt + a5.toInt := i_add (by omega) (by omega)
      refine n_rJ (L := 10240) (by decide) (by omega) (by omega) (fun x28_ x28_e => ?_)
      try have i9_ : ((16 : Int32) * a1).toInt = 16 * a1.toInt := i_mul (n := 16) rfl (by omega) (by omega)
      try have i10_ : (((16 : Int32) * a1) + a5).toInt = ((16 : Int32) * a1).toInt + a5.toInt := i_add (by omega) (by omega)
      refine n_wJ (L := 960) mS FS (by first | decide | exact hE _ (by decide) | simp) (by decide) (by omega) (by omega) (fun S11_ mS11_ FS11_ gS11_ hS11_ kS11_ => ?_)
      try have i13_ : (a5 + (1 : Int32)).toInt = a5.toInt + (1 : Int32).toInt := i_add (by omega) (by omega)
      refine n_letv (fun x412_ x412_v => ?_)
      have x412_t := congrArg Int32.toInt x412_v
      exact ih a1 a4 x412_ S11_ mS11_ FS11_ (by first | omega | assumption) (by first | omega | assumption) (by first | omega | assumption) (by first | omega | assumption) (by first | omega | assumption) (by first | omega | assumption) (by omega)
