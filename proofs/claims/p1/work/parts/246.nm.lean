-- gM_in
set_option maxHeartbeats 4000000 in
theorem nM_in {a0 : Int64} {a2 : Int64} {a4 : Int64} {S : MS} (mS : MI S)  : nJ (NP S (fun r : Int32 => (r.toInt = 0 ∧ (a0.toInt < a2.toInt ∨ a4.toInt < a0.toInt)) ∨ (r.toInt = 1 ∧ a2.toInt ≤ a0.toInt ∧ a0.toInt ≤ a4.toInt))) (gM_in a0 a2 a4 S) := by
  unfold gM_in
  have L1_ : (0 : Int32).toInt = 0 := rfl
  have L2_ : (1 : Int32).toInt = 1 := rfl
  refine n_l1 (fun c3_ => ?_) (fun c3_ => ?_)
  · skip
    exact n_rP (by omega)
  · skip
    refine n_l3 (fun c4_ => ?_) (fun c4_ => ?_)
    · skip
      exact n_rP (by omega)
    · skip
      exact n_rP (by omega)

-- gM_begins_16
set_option maxHeartbeats 4000000 in
theorem nM_begins_16 {L_a0 : Nat} {L_a3 : Nat} : ∀ (n : Nat) (a0 : Nat) (a1 : Int32) (a3 : Nat) (a4 : Int32) (a5 : Int32) (a6 : Int32) (a7 : Int32) (S : MS), MI S → rowL a0 1 L_a0 → rowL a3 1 L_a3 → 0 ≤ a1.toInt → a1.toInt ≤ 30000 → 0 ≤ a4.toInt → a4.toInt ≤ 30000 → a6.toInt = 0 ∨ (a6.toInt = 1 ∧ a1.toInt + a5.toInt ≤ (L_a0 : Int)) → a4.toInt + a5.toInt ≤ (L_a3 : Int) → a5.toInt ≤ 1200 → 0 ≤ a7.toInt → a7.toInt ≤ 1200 → 1200 - a7.toInt < (n : Int) → nJ (NP S (fun r : Int32 => r.toInt = 0 ∨ r.toInt = 1)) (gM_begins_16 n a0 a1 a3 a4 a5 a6 a7 S) := by
  intro n
  induction n with
  | zero => intro a0 a1 a3 a4 a5 a6 a7 S mS hr_a0 hr_a3 p0_ p1_ p2_ p3_ p4_ p5_ p6_ p7_ p8_ m_; exfalso; omega
  | succ n ih =>
    intro a0 a1 a3 a4 a5 a6 a7 S mS hr_a0 hr_a3 p0_ p1_ p2_ p3_ p4_ p5_ p6_ p7_ p8_ m_
    unfold gM_begins_16
    have L1_ : (0 : Int32).toInt = 0 := rfl
    have L2_ : (1 : Int32).toInt = 1 := rfl
    refine n_le (fun c3_ => ?_) (fun c3_ => ?_)
    · skip
      rw [if_pos (by first | decide | exact b_of (by omega))]
      exact n_rP (by omega)
    · skip
      refine n_eq (fun c4_ => ?_) (fun c4_ => ?_)
      · skip
        rw [if_pos (by first | decide | exact b_of (by omega))]
        exact n_rP (by omega)
      · skip
        try have i5_ : (a1 + a7).toInt = a1.toInt + a7.toInt := i_add (by omega) (by omega)
        refine n_rJ hr_a0 (by omega) (by omega) (fun x16_ x16_e => ?_)
        try have i7_ : (a4 + a7).toInt = a4.toInt + a7.toInt := i_add (by omega) (by omega)
        refine n_rJ hr_a3 (by omega) (by omega) (fun x28_ x28_e => ?_)
        refine n_l0 (fun c9_ => ?_) (fun c9_ => ?_)
        · skip
          try have i11_ : (a7 + (1 : Int32)).toInt = a7.toInt + (1 : Int32).toInt := i_add (by omega) (by omega)
          refine n_letv (fun x410_ x410_v => ?_)
          have x410_t := congrArg Int32.toInt x410_v
          exact ih _ _ _ _ _ _ _ _ mS hr_a0 hr_a3 (by first | omega | assumption) (by first | omega | assumption) (by first | omega | assumption) (by first | omega | assumption) (by first | omega | assumption) (by first | omega | assumption) (by first | omega | assumption) (by first | omega | assumption) (by first | omega | assumption) (by omega)
        · skip
          try have i13_ : (a7 + (1 : Int32)).toInt = a7.toInt + (1 : Int32).toInt := i_add (by omega) (by omega)
          refine n_letv (fun x312_ x312_v => ?_)
          have x312_t := congrArg Int32.toInt x312_v
          exact ih _ _ _ _ _ _ _ _ mS hr_a0 hr_a3 (by first | omega | assumption) (by first | omega | assumption) (by first | omega | assumption) (by first | omega | assumption) (by first | omega | assumption) (by first | omega | assumption) (by first | omega | assumption) (by first | omega | assumption) (by first | omega | assumption) (by omega)

-- gM_begins
set_option maxHeartbeats 4000000 in
theorem nM_begins {L_a0 : Nat} {L_a3 : Nat} {a0 : Nat} {a1 : Int32} {a2 : Int32} {a3 : Nat} {a4 : Int32} {a5 : Int32} {S : MS} (mS : MI S) (hr_a0 : rowL a0 1 L_a0) (hr_a3 : rowL a3 1 L_a3) (p0_ : 0 ≤ a1.toInt) (p1_ : a1.toInt ≤ 30000) (p2_ : 0 ≤ a4.toInt) (p3_ : a4.toInt ≤ 30000) (p4_ : a1.toInt + a2.toInt ≤ (L_a0 : Int)) (p5_ : a4.toInt + a5.toInt ≤ (L_a3 : Int)) (p6_ : a5.toInt ≤ 1200) : nJ (NP S (fun r : Int32 => r.toInt = 0 ∨ r.toInt = 1)) (gM_begins a0 a1 a2 a3 a4 a5 S) := by
  unfold gM_begins
  have L1_ : (0 : Int32).toInt = 0 := rfl
  have L2_ : (1 : Int32).toInt = 1 := rfl
  refine n_lt (fun c3_ => ?_) (fun c3_ => ?_)
  · skip
    exact n_PP (nM_begins_16 (L_a0 := L_a0) (L_a3 := L_a3) _ _ _ _ _ _ _ _ _ mS hr_a0 hr_a3 (by first | omega | assumption) (by first | omega | assumption) (by first | omega | assumption) (by first | omega | assumption) (by first | omega | assumption) (by first | omega | assumption) (by first | omega | assumption) (by first | omega | assumption) (by first | omega | assumption) (by simp only [sm_fuel_eq]; omega)) (fun _ q => by first | exact q | trivial | omega)
  · skip
    exact n_PP (nM_begins_16 (L_a0 := L_a0) (L_a3 := L_a3) _ _ _ _ _ _ _ _ _ mS hr_a0 hr_a3 (by first | omega | assumption) (by first | omega | assumption) (by first | omega | assumption) (by first | omega | assumption) (by first | omega | assumption) (by first | omega | assumption) (by first | omega | assumption) (by first | omega | assumption) (by first | omega | assumption) (by simp only [sm_fuel_eq]; omega)) (fun _ q => by first | exact q | trivial | omega)

-- gM_order_3
set_option maxHeartbeats 4000000 in
theorem nM_order_3 {L_a0 : Nat} {L_a3 : Nat} : ∀ (n : Nat) (a0 : Nat) (a1 : Int32) (a2 : Int32) (a3 : Nat) (a4 : Int32) (a5 : Int32) (a6 : Int32) (S : MS), MI S → rowL a0 1 L_a0 → rowL a3 1 L_a3 → 0 ≤ a1.toInt → a1.toInt ≤ 30000 → 0 ≤ a4.toInt → a4.toInt ≤ 30000 → a1.toInt + a2.toInt ≤ (L_a0 : Int) → a4.toInt + a5.toInt ≤ (L_a3 : Int) → a2.toInt ≤ 1200 → 0 ≤ a6.toInt → a6.toInt ≤ 1200 → 1200 - a6.toInt < (n : Int) → nJ (NP S (fun r : Int32 => True)) (gM_order_3 n a0 a1 a2 a3 a4 a5 a6 S) := by
  intro n
  induction n with
  | zero => intro a0 a1 a2 a3 a4 a5 a6 S mS hr_a0 hr_a3 p0_ p1_ p2_ p3_ p4_ p5_ p6_ p7_ p8_ m_; exfalso; omega
  | succ n ih =>
    intro a0 a1 a2 a3 a4 a5 a6 S mS hr_a0 hr_a3 p0_ p1_ p2_ p3_ p4_ p5_ p6_ p7_ p8_ m_
    unfold gM_order_3
    have L1_ : (0 : Int32).toInt = 0 := rfl
    have L2_ : (1 : Int32).toInt = 1 := rfl
    refine n_le (fun c3_ => ?_) (fun c3_ => ?_)
    · skip
      unfold gM_order_62
      refine n_le (fun c4_ => ?_) (fun c4_ => ?_)
      · skip
        refine n_le (fun c5_ => ?_) (fun c5_ => ?_)
        · skip
          exact n_rP trivial
        · skip
          exact n_rP trivial
      · skip
        exact n_rP trivial
    · skip
      refine n_le (fun c6_ => ?_) (fun c6_ => ?_)
      · skip
        unfold gM_order_62
        refine n_le (fun c7_ => ?_) (fun c7_ => ?_)
        · skip
          refine n_le (fun c8_ => ?_) (fun c8_ => ?_)
          · skip
            exact n_rP trivial
          · skip
            exact n_rP trivial
        · skip
          exact n_rP trivial
      · skip
        try have i9_ : (a1 + a6).toInt = a1.toInt + a6.toInt := i_add (by omega) (by omega)
        refine n_rJ hr_a0 (by omega) (by omega) (fun x110_ x110_e => ?_)
        try have i11_ : (a4 + a6).toInt = a4.toInt + a6.toInt := i_add (by omega) (by omega)
        refine n_rJ hr_a3 (by omega) (by omega) (fun x212_ x212_e => ?_)
        refine n_l0 (fun c13_ => ?_) (fun c13_ => ?_)
        · skip
          try have i15_ : (a6 + (1 : Int32)).toInt = a6.toInt + (1 : Int32).toInt := i_add (by omega) (by omega)
          refine n_letv (fun x314_ x314_v => ?_)
          have x314_t := congrArg Int32.toInt x314_v
          exact ih _ _ _ _ _ _ _ _ mS hr_a0 hr_a3 (by first | omega | assumption) (by first | omega | assumption) (by first | omega | assumption) (by first | omega | assumption) (by first | omega | assumption) (by first | omega | assumption) (by first | omega | assumption) (by first | omega | assumption) (by first | omega | assumption) (by omega)
        · skip
          refine n_rJ hr_a0 (by omega) (by omega) (fun x416_ x416_e => ?_)
          refine n_rJ hr_a3 (by omega) (by omega) (fun x517_ x517_e => ?_)
          refine n_l4 (fun c18_ => ?_) (fun c18_ => ?_)
          · skip
            exact n_rP trivial
          · skip
            exact n_rP trivial

-- gM_order
set_option maxHeartbeats 4000000 in
theorem nM_order {L_a0 : Nat} {L_a3 : Nat} {a0 : Nat} {a1 : Int32} {a2 : Int32} {a3 : Nat} {a4 : Int32} {a5 : Int32} {S : MS} (mS : MI S) (hr_a0 : rowL a0 1 L_a0) (hr_a3 : rowL a3 1 L_a3) (p0_ : 0 ≤ a1.toInt) (p1_ : a1.toInt ≤ 30000) (p2_ : 0 ≤ a4.toInt) (p3_ : a4.toInt ≤ 30000) (p4_ : a1.toInt + a2.toInt ≤ (L_a0 : Int)) (p5_ : a4.toInt + a5.toInt ≤ (L_a3 : Int)) (p6_ : a2.toInt ≤ 1200) : nJ (NP S (fun r : Int32 => True)) (gM_order a0 a1 a2 a3 a4 a5 S) := by
  unfold gM_order
  have L1_ : (0 : Int32).toInt = 0 := rfl
  have L2_ : (1 : Int32).toInt = 1 := rfl
  exact n_PP (nM_order_3 (L_a0 := L_a0) (L_a3 := L_a3) _ _ _ _ _ _ _ _ _ mS hr_a0 hr_a3 (by first | omega | assumption) (by first | omega | assumption) (by first | omega | assumption) (by first | omega | assumption) (by first | omega | assumption) (by first | omega | assumption) (by first | omega | assumption) (by first | omega | assumption) (by first | omega | assumption) (by simp only [sm_fuel_eq]; omega)) (fun _ q => by first | exact q | trivial | omega)

-- gM_feed_51
-- E: W 1 2
set_option maxHeartbeats 4000000 in
theorem nM_feed_51 {g : Int} {E : List Nat} {S0 : MS} (hE : ∀ k ∈ [1, 2], k ∈ E) : ∀ (n : Nat) (a1 : Int64) (a4 : Int32) (S : MS), MI S → fM E S0 S → -1 ≤ a4.toInt → a4.toInt ≤ 7 → (S.1 2).toInt + a4.toInt + 1 = g → g ≤ 1200 → a4.toInt + 1 < (n : Int) → nJ (NW E S0 (fun (r : Int32) (S' : MS) => r.toInt = g ∧ (S'.1 2).toInt = g)) (gM_feed_51 n a1 a4 S) := by
  have L0 : (0 : Int32).toInt = 0 := rfl
  have L1 : (1 : Int32).toInt = 1 := rfl
  have Lm : (-1 : Int32).toInt = -1 := rfl
  intro n
  induction n with
  | zero => intro a1 a4 S m F p0 p1 p2 p3 q; exfalso; omega
  | succ n ih =>
    intro a1 a4 S m F p0 p1 p2 p3 q
    have r2 := mi_f m 2 rfl
    unfold gM_feed_51
    refine n_lt (fun c => ?_) (fun c => ?_)
    · refine n_let ?_
      exact n_rW m F ⟨by omega, by omega⟩
    · refine n_let ?_
      refine n_wI (L := 1200) m F (hE _ (by decide)) (by decide) (by decide) rfl (by omega) (by omega) (i_lo _) (i_hi _) (fun S3 m3 F3 g3 h3 k3 => ?_)
      refine n_let ?_
      have q3 : (S3.1 2).toInt = (S.1 2).toInt := by rw [g3]
      have q4 : (S3.1 2 + 1).toInt = (S3.1 2).toInt + 1 := i_add1 (by omega)
      refine n_sI m3 F3 (hE _ (by decide)) rfl (by omega) (by omega) (fun S5 m5 F5 v5 g5 h5 => ?_)
      refine n_letv (fun x6 hx6 => ?_)
      have q5 : (S5.1 2).toInt = (S3.1 2).toInt + 1 := by rw [v5]; exact q4
      have q6 : x6.toInt = a4.toInt - 1 := by rw [hx6, i_add (by rw [Lm]; omega) (by rw [Lm]; omega), Lm]; omega
      clear hx6 q4 v5 Lm
      exact ih _ _ _ m5 F5 (by omega) (by omega) (by omega) (by omega) (by omega)

-- gM_feed
-- E: W 0 1 2
def feedQ (ts n r ts' : Int) : Prop := (r = -2 ∧ (n < 0 ∨ 8 < n) ∧ ts' = ts) ∨ (r = 0 ∧ n = 0 ∧ ts' = 0) ∨ (r = -4 ∧ 1 ≤ n ∧ n ≤ 8 ∧ 1200 < ts + n ∧ ts' = ts) ∨ (1 ≤ n ∧ n ≤ 8 ∧ ts + n ≤ 1200 ∧ r = ts + n ∧ ts' = ts + n)
set_option maxHeartbeats 4000000 in
theorem nM_feed {a1 : Int64} {a3 : Int32} {S : MS} (mS : MI S) : nJ (NW [0, 1, 2] S (fun (r : Int32) (S' : MS) => feedQ (S.1 2).toInt a3.toInt r.toInt (S'.1 2).toInt)) (gM_feed a1 a3 S) := by
  have L0 : (0 : Int32).toInt = 0 := rfl
  have L1 : (1 : Int32).toInt = 1 := rfl
  have Lm2 : (-2 : Int32).toInt = -2 := rfl
  have Lm4 : (-4 : Int32).toInt = -4 := rfl
  have L12 : (1200 : Int32).toInt = 1200 := rfl
  have J0 : (0 : Int64).toInt = 0 := rfl
  have J8 : (8 : Int64).toInt = 8 := rfl
  have j3 := Int32.toInt_toInt64 a3
  have r2 := mi_f mS 2 rfl
  unfold gM_feed
  refine n_sI mS (fM_rf [0, 1, 2] S) (by decide) rfl (i_lo _) (i_hi _) (fun S1 m1 F1 v1 g1 h1 => ?_)
  have q1 : (S1.1 2).toInt = (S.1 2).toInt := by rw [g1 2 (by decide)]
  refine n_cP (nM_in m1) (fun x2 qx => ?_)
  refine n_eq (fun c => ?_) (fun c => ?_)
  · exact n_rW m1 F1 (Or.inl ⟨by omega, by omega, by omega⟩)
  · refine n_eq (fun c2 => ?_) (fun c2 => ?_)
    · refine n_sI m1 F1 (by decide) rfl (by omega) (by omega) (fun S6 m6 F6 v6 g6 h6 => ?_)
      exact n_rW m6 F6 (Or.inr (Or.inl ⟨by omega, by omega, by rw [v6]; omega⟩))
    · refine n_let ?_
      have i1 : (S1.1 2 + a3).toInt = (S1.1 2).toInt + a3.toInt := i_add (by omega) (by omega)
      refine n_le (fun c3 => ?_) (fun c3 => ?_)
      · refine n_let ?_
        have i2 : (a3 - 1).toInt = a3.toInt - (1 : Int32).toInt := i_sub (by omega) (by omega)
        obtain ⟨r, S', e, hm, h1, h2⟩ := nM_feed_51 (g := (S.1 2).toInt + a3.toInt) (E := [0, 1, 2]) (S0 := S) (by decide) sm_fuel a1 (a3 - 1) S1 m1 F1 (by omega) (by omega) (by omega) (by omega) (by simp only [sm_fuel_eq]; omega)
        exact ⟨r, S', e, hm, Or.inr (Or.inr (Or.inr ⟨by omega, by omega, by omega, by omega, by omega⟩))⟩
      · exact n_rW m1 F1 (Or.inr (Or.inr (Or.inl ⟨by omega, by omega, by omega, by omega, by omega⟩)))

-- gM_number
set_option maxHeartbeats 4000000 in
theorem nM_number {a1 : Int64} {S : MS} (mS : MI S)  : nJ (NW [0, 3, 4] S (fun (r : Int32) (S' : MS) => True)) (gM_number a1 S) := by
  unfold gM_number
  have FS := fM_rf [0, 3, 4] S
  have L1_ : (0 : Int32).toInt = 0 := rfl
  have L2_ : (1 : Int32).toInt = 1 := rfl
  refine n_sI mS FS (by first | decide | exact hE _ (by decide) | simp) rfl (i_lo _) (i_hi _) (fun S3_ mS3_ FS3_ vS3_ gS3_ hS3_ => ?_)
  have q4_ := congrArg Int32.toInt (gS3_ 4 (by decide))
  have L5_ : (-1 : Int64).toInt = -1 := rfl
  refine n_l0 (fun c6_ => ?_) (fun c6_ => ?_)
  · skip
    refine n_sI mS3_ FS3_ (by first | decide | exact hE _ (by decide) | simp) rfl (by omega) (by omega) (fun S7_ mS7_ FS7_ vS7_ gS7_ hS7_ => ?_)
    exact n_rW mS7_ FS7_ trivial
  · skip
    have r8_ := mi_f mS3_ 4 rfl
    refine n_let ?_
    refine n_eq (fun c9_ => ?_) (fun c9_ => ?_)
    · skip
      have L10_ : (2 : Int64).toInt = 2 := rfl
      unfold gM_number_50
      have L11_ : (0 : Int64).toInt = 0 := rfl
      refine n_cP (nM_in  mS3_ ) (fun x112_ qx112_ => ?_)
      refine n_eq (fun c13_ => ?_) (fun c13_ => ?_)
      · skip
        exact n_rW mS3_ FS3_ trivial
      · skip
        refine n_let ?_
        have L14_ : (16 : Int32).toInt = 16 := rfl
        refine n_eq (fun c15_ => ?_) (fun c15_ => ?_)
        · skip
          exact n_rW mS3_ FS3_ trivial
        · skip
          refine n_let ?_
          refine n_wJ (L := 16) mS3_ FS3_ (by first | decide | exact hE _ (by decide) | simp) (by decide) (by omega) (by omega) (fun S16_ mS16_ FS16_ gS16_ hS16_ kS16_ => ?_)
          have q17_ := congrArg Int32.toInt (congrFun gS16_ 4)
          have r18_ := mi_f mS16_ 4 rfl
          refine n_let ?_
          try have i19_ : ((S16_.1 4) + (1 : Int32)).toInt = (S16_.1 4).toInt + (1 : Int32).toInt := i_add (by omega) (by omega)
          refine n_sI mS16_ FS16_ (by first | decide | exact hE _ (by decide) | simp) rfl (by omega) (by omega) (fun S20_ mS20_ FS20_ vS20_ gS20_ hS20_ => ?_)
          have q21_ := congrArg Int32.toInt vS20_
          have r22_ := mi_f mS20_ 4 rfl
          refine n_let ?_
          exact n_rW mS20_ FS20_ trivial
    · skip
      refine n_let ?_
      refine n_eq (fun c23_ => ?_) (fun c23_ => ?_)
      · skip
        have L24_ : (39 : Int64).toInt = 39 := rfl
        unfold gM_number_50
        have L25_ : (0 : Int64).toInt = 0 := rfl
        refine n_cP (nM_in  mS3_ ) (fun x126_ qx126_ => ?_)
        refine n_eq (fun c27_ => ?_) (fun c27_ => ?_)
        · skip
          exact n_rW mS3_ FS3_ trivial
        · skip
          refine n_let ?_
          have L28_ : (16 : Int32).toInt = 16 := rfl
          refine n_eq (fun c29_ => ?_) (fun c29_ => ?_)
          · skip
            exact n_rW mS3_ FS3_ trivial
          · skip
            refine n_let ?_
            refine n_wJ (L := 16) mS3_ FS3_ (by first | decide | exact hE _ (by decide) | simp) (by decide) (by omega) (by omega) (fun S30_ mS30_ FS30_ gS30_ hS30_ kS30_ => ?_)
            have q31_ := congrArg Int32.toInt (congrFun gS30_ 4)
            have r32_ := mi_f mS30_ 4 rfl
            refine n_let ?_
            try have i33_ : ((S30_.1 4) + (1 : Int32)).toInt = (S30_.1 4).toInt + (1 : Int32).toInt := i_add (by omega) (by omega)
            refine n_sI mS30_ FS30_ (by first | decide | exact hE _ (by decide) | simp) rfl (by omega) (by omega) (fun S34_ mS34_ FS34_ vS34_ gS34_ hS34_ => ?_)
            have q35_ := congrArg Int32.toInt vS34_
            have r36_ := mi_f mS34_ 4 rfl
            refine n_let ?_
            exact n_rW mS34_ FS34_ trivial
      · skip
        have L37_ : (4294967295 : Int64).toInt = 4294967295 := rfl
        unfold gM_number_50
        have L38_ : (0 : Int64).toInt = 0 := rfl
        refine n_cP (nM_in  mS3_ ) (fun x139_ qx139_ => ?_)
        refine n_eq (fun c40_ => ?_) (fun c40_ => ?_)
        · skip
          exact n_rW mS3_ FS3_ trivial
        · skip
          refine n_let ?_
          have L41_ : (16 : Int32).toInt = 16 := rfl
          refine n_eq (fun c42_ => ?_) (fun c42_ => ?_)
          · skip
            exact n_rW mS3_ FS3_ trivial
          · skip
            refine n_let ?_
            refine n_wJ (L := 16) mS3_ FS3_ (by first | decide | exact hE _ (by decide) | simp) (by decide) (by omega) (by omega) (fun S43_ mS43_ FS43_ gS43_ hS43_ kS43_ => ?_)
            have q44_ := congrArg Int32.toInt (congrFun gS43_ 4)
            have r45_ := mi_f mS43_ 4 rfl
            refine n_let ?_
            try have i46_ : ((S43_.1 4) + (1 : Int32)).toInt = (S43_.1 4).toInt + (1 : Int32).toInt := i_add (by omega) (by omega)
            refine n_sI mS43_ FS43_ (by first | decide | exact hE _ (by decide) | simp) rfl (by omega) (by omega) (fun S47_ mS47_ FS47_ vS47_ gS47_ hS47_ => ?_)
            have q48_ := congrArg Int32.toInt vS47_
            have r49_ := mi_f mS47_ 4 rfl
            refine n_let ?_
            exact n_rW mS47_ FS47_ trivial
