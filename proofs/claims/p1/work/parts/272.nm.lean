-- which objects are status columns
def JJ (S : MS) : Prop := (∀ i : Nat, (S.2.2.1 16 i).toInt = 1 → 0 ≤ (S.2.2.1 15 i).toInt ∧ (S.2.2.1 11 i).toInt = 2) ∧ ∀ i : Nat, (S.1 8).toInt ≤ (i : Int) → (S.2.2.1 16 i).toInt = 0
theorem jj_fr {E : List Nat} {S S' : MS} (f : fM E S S') (h8 : 8 ∉ E) (h11 : 11 ∉ E) (h15 : 15 ∉ E) (h16 : 16 ∉ E) (j : JJ S) : JJ S' := by
  unfold JJ
  rw [f.1 8 h8, f.2.1 11 h11, f.2.1 15 h15, f.2.1 16 h16]
  exact j
theorem jj_sI {S S1 : MS} (g : S1.1 8 = S.1 8) (h : S1.2 = S.2) (j : JJ S) : JJ S1 := by
  unfold JJ
  rw [g, h]; exact j
theorem jj_wJ {S S1 : MS} (g : S1.1 = S.1) (h : S1.2.2.1 = S.2.2.1) (j : JJ S) : JJ S1 := by
  unfold JJ
  rw [g, h]; exact j
theorem jj_wI {S S1 : MS} (g : S1.1 = S.1) (h1 : S1.2.2.1 11 = S.2.2.1 11) (h2 : S1.2.2.1 15 = S.2.2.1 15) (h3 : S1.2.2.1 16 = S.2.2.1 16) (j : JJ S) : JJ S1 := by
  unfold JJ
  rw [g, h1, h2, h3]; exact j
theorem nj_mc {Rs Rt : Type} {P : MS → Prop} {R : Rt → MS → Prop} {X : Option (Rs × MS)} {f : Rs → MS → Option (Rt × MS)} (c : nJ (fun (_ : Rs) (S' : MS) => P S') X) (kk : ∀ r S', P S' → nJ R (f r S')) : nJ R (mc X f) := by
  obtain ⟨r, S', rfl, q⟩ := c
  exact kk r S' q
set_option maxHeartbeats 4000000 in
theorem jM_newObject {a1 a2 : Int32} {a3 a5 : Int64} {a7 a8 : Int32} {S : MS} (mS : MI S) (j : JJ S) (p0 : -1 ≤ a7.toInt) (p1 : a7.toInt ≤ 3) (p2 : a8.toInt = 0 ∨ a8.toInt = 1) (p3 : (S.1 8).toInt ≤ 39) (p4 : a8.toInt = 0 ∨ (0 ≤ a7.toInt ∧ a1.toInt = 2)) : nJ (fun (_ : Int32) (S' : MS) => JJ S') (gM_newObject a1 a2 a3 a5 a7 a8 S) := by
  have L0 : (0 : Int32).toInt = 0 := rfl
  have r8 := mi_f mS 8 rfl
  have nb := nar_r p2
  have nv : (vp_nar .boolean a8).toInt = a8.toInt := by
    rcases b_of p2 with q | q <;> rw [q] <;> rfl
  unfold gM_newObject
  refine n_let ?_
  refine n_wI (L := 40) mS (fM_rf [11] S) (by decide) (by decide) (by decide) rfl (by omega) (by omega) (i_lo _) (i_hi _) (fun S1 m1 _ g1 h1 k1 => ?_)
  refine n_wI (L := 40) m1 (fM_rf [12] S1) (by decide) (by decide) (by decide) rfl (by omega) (by omega) (i_lo _) (i_hi _) (fun S2 m2 _ g2 h2 k2 => ?_)
  refine n_wJ (L := 40) m2 (fM_rf [13] S2) (by decide) (by decide) (by omega) (by omega) (fun S3 m3 _ g3 h3 k3 => ?_)
  refine n_wJ (L := 40) m3 (fM_rf [14] S3) (by decide) (by decide) (by omega) (by omega) (fun S4 m4 _ g4 h4 k4 => ?_)
  refine n_wI (L := 40) m4 (fM_rf [15] S4) (by decide) (by decide) (by decide) rfl (by omega) (by omega) (by omega) (by omega) (fun S5 m5 _ g5 h5 k5 => ?_)
  refine n_wI (L := 40) m5 (fM_rf [16] S5) (by decide) (by decide) (by decide) rfl (by omega) (by omega) (by omega) (by omega) (fun S6 m6 _ g6 h6 k6 => ?_)
  have q8 : S6.1 8 = S.1 8 := by rw [g6, g5, g4, g3, g2, g1]
  have q8t : (S6.1 8).toInt = (S.1 8).toInt := by rw [q8]
  have e11 : S6.2.2.1 11 = upd (S.2.2.1 11) (S.1 8).toInt.toNat a1 := by rw [h6 11 (by decide), h5 11 (by decide), h4, h3, h2 11 (by decide), k1]
  have e15 : S6.2.2.1 15 = upd (S.2.2.1 15) (S.1 8).toInt.toNat a7 := by rw [h6 15 (by decide), k5, h4, h3, h2 15 (by decide), h1 15 (by decide)]
  have e16 : S6.2.2.1 16 = upd (S.2.2.1 16) (S.1 8).toInt.toNat (vp_nar .boolean a8) := by rw [k6, h5 16 (by decide), h4, h3, h2 16 (by decide), h1 16 (by decide)]
  obtain ⟨r, S', e, ⟨mi, F⟩, hq⟩ := nM_newObject_60 (E := [8, 17, 19, 20, 21]) (S0 := S6) (by decide) sm_fuel (S.1 8) 0 S6 m6 (fM_rf _ _) (by omega) (by omega) (by omega) (by omega) (by omega) (by omega) (by simp only [sm_fuel_eq]; omega)
  refine ⟨r, S', e, ?_⟩
  show JJ S'
  unfold JJ
  rw [F.2.1 11 (by decide), F.2.1 15 (by decide), F.2.1 16 (by decide), e11, e15, e16]
  refine ⟨fun i hi => ?_, fun i hi => ?_⟩
  · unfold upd at hi ⊢
    by_cases q : i = (S.1 8).toInt.toNat
    · rw [if_pos q] at hi
      rw [if_pos q, if_pos q]
      omega
    · rw [if_neg q] at hi
      rw [if_neg q, if_neg q]
      exact j.1 i hi
  · unfold upd
    rw [if_neg (by omega)]
    exact j.2 i (by omega)
-- gM_scalar_87
set_option maxHeartbeats 4000000 in
theorem jM_scalar_87 {E : List Nat} {S0 : MS} (hE : ∀ k ∈ [10, 11, 12, 13, 14, 15, 16, 17, 19, 20, 21, 8, 9], k ∈ E) : ∀ (n : Nat) (a1 : Int32) (a2 : Int32) (a3 : Int64) (a5 : Int64) (a7 : Int32) (a8 : Int32) (S : MS), MI S → fM E S0 S → JJ S → 0 ≤ a7.toInt → a7.toInt ≤ 15 → 0 ≤ a8.toInt → a8.toInt ≤ 16 → (S.1 8).toInt ≤ 39 → (S.1 4).toInt = 0 → 16 - a8.toInt < (n : Int) → nJ (fun (_ : Int32) (S' : MS) => JJ S') (gM_scalar_87 n a1 a2 a3 a5 a7 a8 S) := by
  intro n
  induction n with
  | zero => intro a1 a2 a3 a5 a7 a8 S mS FS JS p0_ p1_ p2_ p3_ p4_ p5_ m_; exfalso; omega
  | succ n ih =>
    intro a1 a2 a3 a5 a7 a8 S mS FS JS p0_ p1_ p2_ p3_ p4_ p5_ m_
    unfold gM_scalar_87
    have L1_ : (0 : Int32).toInt = 0 := rfl
    have L2_ : (1 : Int32).toInt = 1 := rfl
    refine n_le (fun c3_ => ?_) (fun c3_ => ?_)
    · skip
      have r4_ := mi_f mS 8 rfl
      refine n_let ?_
      refine n_wI (L := 40) mS FS (by first | decide | exact hE _ (by decide) | simp) (by decide) (by decide) rfl (by omega) (by omega) (by omega) (by omega) (fun S5_ mS5_ FS5_ gS5_ hS5_ kS5_ => ?_)
      have JS5_ := jj_wI gS5_ (hS5_ 11 (by decide)) (hS5_ 15 (by decide)) (hS5_ 16 (by decide)) JS
      have q6_ := congrArg Int32.toInt (congrFun gS5_ 4)
      have q7_ := congrArg Int32.toInt (congrFun gS5_ 8)
      have L8_ : (-1 : Int32).toInt = -1 := rfl
      have r9_ := mi_f mS5_ 8 rfl
      refine nj_mc (jM_newObject mS5_ JS5_ (by first | omega | assumption) (by first | omega | assumption) (by first | omega | assumption) (by first | omega | assumption) (by first | omega | assumption)) (fun x11_ S10_ JS10_ => ?_)
      exact ⟨_, _, rfl, JS10_⟩
    · skip
      have r12_ := mi_f mS 8 rfl
      refine n_let ?_
      refine n_rJ (L := 16) (by decide) (by omega) (by omega) (fun x613_ x613_e => ?_)
      have L14_ : (16 : Int32).toInt = 16 := rfl
      try have i15_ : ((16 : Int32) * (S.1 8)).toInt = 16 * (S.1 8).toInt := i_mul (n := 16) rfl (by omega) (by omega)
      try have i16_ : (((16 : Int32) * (S.1 8)) + a8).toInt = ((16 : Int32) * (S.1 8)).toInt + a8.toInt := i_add (by omega) (by omega)
      refine n_wJ (L := 640) mS FS (by first | decide | exact hE _ (by decide) | simp) (by decide) (by omega) (by omega) (fun S17_ mS17_ FS17_ gS17_ hS17_ kS17_ => ?_)
      have JS17_ := jj_wJ gS17_ hS17_ JS
      have q18_ := congrArg Int32.toInt (congrFun gS17_ 4)
      have q19_ := congrArg Int32.toInt (congrFun gS17_ 8)
      try have i21_ : (a8 + (1 : Int32)).toInt = a8.toInt + (1 : Int32).toInt := i_add (by omega) (by omega)
      refine n_letv (fun x820_ x820_v => ?_)
      have x820_t := congrArg Int32.toInt x820_v
      have r22_ := mi_f mS17_ 8 rfl
      have r23_ := mi_f mS17_ 4 rfl
      exact ih _ _ _ _ _ _ _ mS17_ FS17_ JS17_ (by first | omega | assumption) (by first | omega | assumption) (by first | omega | assumption) (by first | omega | assumption) (by first | omega | assumption) (by first | omega | assumption) (by omega)
-- gM_scalar
set_option maxHeartbeats 4000000 in
theorem jM_scalar {a1 : Int32} {a2 : Int32} {a3 : Int64} {a5 : Int64} {S : MS} (mS : MI S) (JS : JJ S)  : nJ (fun (_ : Int32) (S' : MS) => JJ S') (gM_scalar a1 a2 a3 a5 S) := by
  unfold gM_scalar
  have FS := fM_rf [0, 10, 11, 12, 13, 14, 15, 16, 17, 19, 20, 21, 4, 8, 9] S
  have L1_ : (0 : Int32).toInt = 0 := rfl
  have L2_ : (1 : Int32).toInt = 1 := rfl
  refine n_sI mS FS (by first | decide | exact hE _ (by decide) | simp) rfl (i_lo _) (i_hi _) (fun S3_ mS3_ FS3_ vS3_ gS3_ hS3_ => ?_)
  have JS3_ := jj_sI (gS3_ 8 (by decide)) hS3_ JS
  have q4_ := congrArg Int32.toInt (gS3_ 4 (by decide))
  have q5_ := congrArg Int32.toInt (gS3_ 8 (by decide))
  have r6_ := mi_f mS3_ 4 rfl
  refine n_let ?_
  refine n_sI mS3_ FS3_ (by first | decide | exact hE _ (by decide) | simp) rfl (by omega) (by omega) (fun S7_ mS7_ FS7_ vS7_ gS7_ hS7_ => ?_)
  have JS7_ := jj_sI (gS7_ 8 (by decide)) hS7_ JS3_
  have q8_ := congrArg Int32.toInt (gS7_ 8 (by decide))
  have q9_ := congrArg Int32.toInt vS7_
  refine n_cP (nM_isTag  mS7_ ) (fun x410_ qx410_ => ?_)
  refine n_eq (fun c11_ => ?_) (fun c11_ => ?_)
  · skip
    exact ⟨_, _, rfl, JS7_⟩
  · skip
    have j12_ := Int32.toInt_toInt64 (a2)
    have L13_ : (0 : Int64).toInt = 0 := rfl
    have L14_ : (2 : Int64).toInt = 2 := rfl
    refine n_cP (nM_in  mS7_ ) (fun x615_ qx615_ => ?_)
    refine n_eq (fun c16_ => ?_) (fun c16_ => ?_)
    · skip
      exact ⟨_, _, rfl, JS7_⟩
    · skip
      refine n_l3 (fun c17_ => ?_) (fun c17_ => ?_)
      · skip
        exact ⟨_, _, rfl, JS7_⟩
      · skip
        have j18_ := Int32.toInt_toInt64 ((S3_.1 4))
        have L19_ : (15 : Int64).toInt = 15 := rfl
        refine n_cP (nM_in  mS7_ ) (fun x820_ qx820_ => ?_)
        refine n_eq (fun c21_ => ?_) (fun c21_ => ?_)
        · skip
          exact ⟨_, _, rfl, JS7_⟩
        · skip
          refine n_cP (nM_clashes  mS7_ (by first | omega | assumption) (by first | omega | assumption)) (fun x1022_ qx1022_ => ?_)
          refine n_eq (fun c23_ => ?_) (fun c23_ => ?_)
          · skip
            have r24_ := mi_f mS7_ 8 rfl
            refine n_let ?_
            have L25_ : (40 : Int32).toInt = 40 := rfl
            refine n_eq (fun c26_ => ?_) (fun c26_ => ?_)
            · skip
              exact ⟨_, _, rfl, JS7_⟩
            · skip
              have r27_ := mi_f mS7_ 4 rfl
              exact jM_scalar_87 (fun _ q => q) _ _ _ _ _ _ _ _ mS7_ (fM_rf _ _) JS7_ (by first | omega | assumption) (by first | omega | assumption) (by first | omega | assumption) (by first | omega | assumption) (by first | omega | assumption) (by first | omega | assumption) (by simp only [sm_fuel_eq]; omega)
          · skip
            exact ⟨_, _, rfl, JS7_⟩
-- gM_columnOf_192
set_option maxHeartbeats 4000000 in
theorem jM_columnOf_192 {E : List Nat} {S0 : MS} (hE : ∀ k ∈ [10, 11, 12, 13, 14, 15, 16, 17, 19, 20, 21, 25, 8, 9], k ∈ E) : ∀ (n : Nat) (a1 : Int32) (a2 : Int32) (a3 : Int32) (a4 : Int32) (a5 : Int64) (a7 : Int64) (a9 : Int32) (a11 : Int32) (a12 : Int32) (S : MS), MI S → fM E S0 S → JJ S → 0 ≤ a1.toInt → a1.toInt ≤ 3 → a9.toInt = 0 ∨ a9.toInt = 1 → 0 ≤ a11.toInt → a11.toInt ≤ 14 → 0 ≤ a12.toInt → a12.toInt ≤ 16 → (S.1 8).toInt ≤ 39 → a9.toInt = 0 ∨ a3.toInt = 2 → 16 - a12.toInt < (n : Int) → nJ (fun (_ : Int32) (S' : MS) => JJ S') (gM_columnOf_192 n a1 a2 a3 a4 a5 a7 a9 a11 a12 S) := by
  intro n
  induction n with
  | zero => intro a1 a2 a3 a4 a5 a7 a9 a11 a12 S mS FS JS p0_ p1_ p2_ p3_ p4_ p5_ p6_ p7_ p8_ m_; exfalso; omega
  | succ n ih =>
    intro a1 a2 a3 a4 a5 a7 a9 a11 a12 S mS FS JS p0_ p1_ p2_ p3_ p4_ p5_ p6_ p7_ p8_ m_
    unfold gM_columnOf_192
    have L1_ : (0 : Int32).toInt = 0 := rfl
    have L2_ : (1 : Int32).toInt = 1 := rfl
    refine n_le (fun c3_ => ?_) (fun c3_ => ?_)
    · skip
      have r4_ := mi_f mS 8 rfl
      refine n_let ?_
      have L5_ : (16 : Int32).toInt = 16 := rfl
      try have i6_ : ((16 : Int32) * (S.1 8)).toInt = 16 * (S.1 8).toInt := i_mul (n := 16) rfl (by omega) (by omega)
      try have i7_ : (((16 : Int32) * (S.1 8)) + a11).toInt = ((16 : Int32) * (S.1 8)).toInt + a11.toInt := i_add (by omega) (by omega)
      refine n_wJ (L := 640) mS FS (by first | decide | exact hE _ (by decide) | simp) (by decide) (by omega) (by omega) (fun S8_ mS8_ FS8_ gS8_ hS8_ kS8_ => ?_)
      have JS8_ := jj_wJ gS8_ hS8_ JS
      have q9_ := congrArg Int32.toInt (congrFun gS8_ 8)
      have r10_ := mi_f mS8_ 8 rfl
      refine n_let ?_
      try have i11_ : (a11 + (1 : Int32)).toInt = a11.toInt + (1 : Int32).toInt := i_add (by omega) (by omega)
      refine n_wI (L := 40) mS8_ FS8_ (by first | decide | exact hE _ (by decide) | simp) (by decide) (by decide) rfl (by omega) (by omega) (by omega) (by omega) (fun S12_ mS12_ FS12_ gS12_ hS12_ kS12_ => ?_)
      have JS12_ := jj_wI gS12_ (hS12_ 11 (by decide)) (hS12_ 15 (by decide)) (hS12_ 16 (by decide)) JS8_
      have q13_ := congrArg Int32.toInt (congrFun gS12_ 8)
      refine n_rI (L := 4) mS12_ (by decide) rfl (by omega) (by omega) (fun x514_ x514_e x514_l x514_u => ?_)
      try have i15_ : (x514_ + (1 : Int32)).toInt = x514_.toInt + (1 : Int32).toInt := i_add (by omega) (by omega)
      refine n_wI (L := 4) mS12_ FS12_ (by first | decide | exact hE _ (by decide) | simp) (by decide) (by decide) rfl (by omega) (by omega) (i_lo _) (i_hi _) (fun S16_ mS16_ FS16_ gS16_ hS16_ kS16_ => ?_)
      have JS16_ := jj_wI gS16_ (hS16_ 11 (by decide)) (hS16_ 15 (by decide)) (hS16_ 16 (by decide)) JS12_
      have q17_ := congrArg Int32.toInt (congrFun gS16_ 8)
      have r18_ := mi_f mS16_ 8 rfl
      refine nj_mc (jM_newObject mS16_ JS16_ (by first | omega | assumption) (by first | omega | assumption) (by first | omega | assumption) (by first | omega | assumption) (by first | omega | assumption)) (fun x20_ S19_ JS19_ => ?_)
      exact ⟨_, _, rfl, JS19_⟩
    · skip
      have r21_ := mi_f mS 8 rfl
      refine n_let ?_
      have L22_ : (16 : Int32).toInt = 16 := rfl
      try have i23_ : ((16 : Int32) * a1).toInt = 16 * a1.toInt := i_mul (n := 16) rfl (by omega) (by omega)
      try have i24_ : (((16 : Int32) * a1) + a12).toInt = ((16 : Int32) * a1).toInt + a12.toInt := i_add (by omega) (by omega)
      refine n_rJ (L := 64) (by decide) (by omega) (by omega) (fun x1025_ x1025_e => ?_)
      try have i26_ : ((16 : Int32) * (S.1 8)).toInt = 16 * (S.1 8).toInt := i_mul (n := 16) rfl (by omega) (by omega)
      try have i27_ : (((16 : Int32) * (S.1 8)) + a12).toInt = ((16 : Int32) * (S.1 8)).toInt + a12.toInt := i_add (by omega) (by omega)
      refine n_wJ (L := 640) mS FS (by first | decide | exact hE _ (by decide) | simp) (by decide) (by omega) (by omega) (fun S28_ mS28_ FS28_ gS28_ hS28_ kS28_ => ?_)
      have JS28_ := jj_wJ gS28_ hS28_ JS
      have q29_ := congrArg Int32.toInt (congrFun gS28_ 8)
      try have i31_ : (a12 + (1 : Int32)).toInt = a12.toInt + (1 : Int32).toInt := i_add (by omega) (by omega)
      refine n_letv (fun x1230_ x1230_v => ?_)
      have x1230_t := congrArg Int32.toInt x1230_v
      have r32_ := mi_f mS28_ 8 rfl
      exact ih _ _ _ _ _ _ _ _ _ _ mS28_ FS28_ JS28_ (by first | omega | assumption) (by first | omega | assumption) (by first | omega | assumption) (by first | omega | assumption) (by first | omega | assumption) (by first | omega | assumption) (by first | omega | assumption) (by first | omega | assumption) (by first | omega | assumption) (by omega)
-- gM_columnOf_86
set_option maxHeartbeats 4000000 in
theorem jM_columnOf_86 {E : List Nat} {S0 : MS} (hE : ∀ k ∈ [10, 11, 12, 13, 14, 15, 16, 17, 19, 20, 21, 25, 8, 9], k ∈ E) : ∀ (n : Nat) (a1 : Int32) (a2 : Int32) (a3 : Int32) (a4 : Int32) (a5 : Int64) (a7 : Int64) (a9 : Int32) (a10 : Int32) (a11 : Int32) (a12 : Int32) (S : MS), MI S → fM E S0 S → JJ S → 0 ≤ a1.toInt → a1.toInt ≤ 3 → a9.toInt = 0 ∨ a9.toInt = 1 → a10.toInt = 0 ∨ a10.toInt = 1 → 0 ≤ a11.toInt → a11.toInt ≤ 14 → 0 ≤ a12.toInt → a12.toInt ≤ 1200 → a9.toInt = 0 ∨ a3.toInt = 2 → 1200 - a12.toInt < (n : Int) → nJ (fun (_ : Int32) (S' : MS) => JJ S') (gM_columnOf_86 n a1 a2 a3 a4 a5 a7 a9 a10 a11 a12 S) := by
  intro n
  induction n with
  | zero => intro a1 a2 a3 a4 a5 a7 a9 a10 a11 a12 S mS FS JS p0_ p1_ p2_ p3_ p4_ p5_ p6_ p7_ p8_ m_; exfalso; omega
  | succ n ih =>
    intro a1 a2 a3 a4 a5 a7 a9 a10 a11 a12 S mS FS JS p0_ p1_ p2_ p3_ p4_ p5_ p6_ p7_ p8_ m_
    unfold gM_columnOf_86
    have L1_ : (0 : Int32).toInt = 0 := rfl
    have L2_ : (1 : Int32).toInt = 1 := rfl
    have r3_ := mi_f mS 8 rfl
    refine n_let ?_
    refine n_le (fun c4_ => ?_) (fun c4_ => ?_)
    · skip
      refine n_eq (fun c5_ => ?_) (fun c5_ => ?_)
      · skip
        refine n_rI (L := 4) mS (by decide) rfl (by omega) (by omega) (fun x26_ x26_e x26_l x26_u => ?_)
        have L7_ : (6 : Int32).toInt = 6 := rfl
        refine n_eq (fun c8_ => ?_) (fun c8_ => ?_)
        · skip
          exact ⟨_, _, rfl, JS⟩
        · skip
          refine n_let ?_
          have L9_ : (40 : Int32).toInt = 40 := rfl
          refine n_eq (fun c10_ => ?_) (fun c10_ => ?_)
          · skip
            exact ⟨_, _, rfl, JS⟩
          · skip
            exact jM_columnOf_192 (fun _ q => q) _ _ _ _ _ _ _ _ _ _ _ mS (fM_rf _ _) JS (by first | omega | assumption) (by first | omega | assumption) (by first | omega | assumption) (by first | omega | assumption) (by first | omega | assumption) (by first | omega | assumption) (by first | omega | assumption) (by first | omega | assumption) (by first | omega | assumption) (by simp only [sm_fuel_eq]; omega)
      · skip
        exact ⟨_, _, rfl, JS⟩
    · skip
      refine n_eq (fun c11_ => ?_) (fun c11_ => ?_)
      · skip
        refine n_rI (L := 40) mS (by decide) rfl (by omega) (by omega) (fun x512_ x512_e x512_l x512_u => ?_)
        refine n_eq (fun c13_ => ?_) (fun c13_ => ?_)
        · skip
          have L14_ : (16 : Int32).toInt = 16 := rfl
          try have i15_ : ((16 : Int32) * a12).toInt = 16 * a12.toInt := i_mul (n := 16) rfl (by omega) (by omega)
          try have i16_ : (((16 : Int32) * a12) + a11).toInt = ((16 : Int32) * a12).toInt + a11.toInt := i_add (by omega) (by omega)
          refine n_rJ (L := 640) (by decide) (by omega) (by omega) (fun x717_ x717_e => ?_)
          have j18_ := Int32.toInt_toInt64 (a2)
          refine n_l0 (fun c19_ => ?_) (fun c19_ => ?_)
          · skip
            try have i21_ : (a12 + (1 : Int32)).toInt = a12.toInt + (1 : Int32).toInt := i_add (by omega) (by omega)
            refine n_letv (fun x820_ x820_v => ?_)
            have x820_t := congrArg Int32.toInt x820_v
            exact ih _ _ _ _ _ _ _ _ _ _ _ mS FS JS (by first | omega | assumption) (by first | omega | assumption) (by first | omega | assumption) (by first | omega | assumption) (by first | omega | assumption) (by first | omega | assumption) (by first | omega | assumption) (by first | omega | assumption) (by first | omega | assumption) (by omega)
          · skip
            refine n_eq (fun c22_ => ?_) (fun c22_ => ?_)
            · skip
              try have i24_ : (a12 + (1 : Int32)).toInt = a12.toInt + (1 : Int32).toInt := i_add (by omega) (by omega)
              refine n_letv (fun x923_ x923_v => ?_)
              have x923_t := congrArg Int32.toInt x923_v
              exact ih _ _ _ _ _ _ _ _ _ _ _ mS FS JS (by first | omega | assumption) (by first | omega | assumption) (by first | omega | assumption) (by first | omega | assumption) (by first | omega | assumption) (by first | omega | assumption) (by first | omega | assumption) (by first | omega | assumption) (by first | omega | assumption) (by omega)
            · skip
              refine n_rI (L := 40) mS (by decide) rfl (by omega) (by omega) (fun x1025_ x1025_e x1025_l x1025_u => ?_)
              refine n_eq (fun c26_ => ?_) (fun c26_ => ?_)
              · skip
                try have i28_ : (a12 + (1 : Int32)).toInt = a12.toInt + (1 : Int32).toInt := i_add (by omega) (by omega)
                refine n_letv (fun x1127_ x1127_v => ?_)
                have x1127_t := congrArg Int32.toInt x1127_v
                exact ih _ _ _ _ _ _ _ _ _ _ _ mS FS JS (by first | omega | assumption) (by first | omega | assumption) (by first | omega | assumption) (by first | omega | assumption) (by first | omega | assumption) (by first | omega | assumption) (by first | omega | assumption) (by first | omega | assumption) (by first | omega | assumption) (by omega)
              · skip
                try have i30_ : (a12 + (1 : Int32)).toInt = a12.toInt + (1 : Int32).toInt := i_add (by omega) (by omega)
                refine n_letv (fun x1229_ x1229_v => ?_)
                have x1229_t := congrArg Int32.toInt x1229_v
                exact ih _ _ _ _ _ _ _ _ _ _ _ mS FS JS (by first | omega | assumption) (by first | omega | assumption) (by first | omega | assumption) (by first | omega | assumption) (by first | omega | assumption) (by first | omega | assumption) (by first | omega | assumption) (by first | omega | assumption) (by first | omega | assumption) (by omega)
        · skip
          try have i32_ : (a12 + (1 : Int32)).toInt = a12.toInt + (1 : Int32).toInt := i_add (by omega) (by omega)
          refine n_letv (fun x631_ x631_v => ?_)
          have x631_t := congrArg Int32.toInt x631_v
          exact ih _ _ _ _ _ _ _ _ _ _ _ mS FS JS (by first | omega | assumption) (by first | omega | assumption) (by first | omega | assumption) (by first | omega | assumption) (by first | omega | assumption) (by first | omega | assumption) (by first | omega | assumption) (by first | omega | assumption) (by first | omega | assumption) (by omega)
      · skip
        try have i34_ : (a12 + (1 : Int32)).toInt = a12.toInt + (1 : Int32).toInt := i_add (by omega) (by omega)
        refine n_letv (fun x433_ x433_v => ?_)
        have x433_t := congrArg Int32.toInt x433_v
        exact ih _ _ _ _ _ _ _ _ _ _ _ mS FS JS (by first | omega | assumption) (by first | omega | assumption) (by first | omega | assumption) (by first | omega | assumption) (by first | omega | assumption) (by first | omega | assumption) (by first | omega | assumption) (by first | omega | assumption) (by first | omega | assumption) (by omega)
-- gM_columnOf
set_option maxHeartbeats 4000000 in
theorem jM_columnOf {a1 : Int32} {a2 : Int32} {a3 : Int32} {a4 : Int32} {a5 : Int64} {a7 : Int64} {a9 : Int32} {S : MS} (mS : MI S) (JS : JJ S)  (p0_ : a9.toInt = 0 ∨ a9.toInt = 1) (p1_ : a9.toInt = 0 ∨ a3.toInt = 2) : nJ (fun (_ : Int32) (S' : MS) => JJ S') (gM_columnOf a1 a2 a3 a4 a5 a7 a9 S) := by
  unfold gM_columnOf
  have FS := fM_rf [0, 10, 11, 12, 13, 14, 15, 16, 17, 19, 20, 21, 25, 8, 9] S
  have L1_ : (0 : Int32).toInt = 0 := rfl
  have L2_ : (1 : Int32).toInt = 1 := rfl
  refine n_sI mS FS (by first | decide | exact hE _ (by decide) | simp) rfl (i_lo _) (i_hi _) (fun S3_ mS3_ FS3_ vS3_ gS3_ hS3_ => ?_)
  have JS3_ := jj_sI (gS3_ 8 (by decide)) hS3_ JS
  have q4_ := congrArg Int32.toInt (gS3_ 22 (by decide))
  have r5_ := mi_f mS3_ 22 rfl
  refine n_let ?_
  have j6_ := Int32.toInt_toInt64 (a1)
  have L7_ : (0 : Int64).toInt = 0 := rfl
  try have i8_ : ((S3_.1 22) - (1 : Int32)).toInt = (S3_.1 22).toInt - (1 : Int32).toInt := i_sub (by omega) (by omega)
  have j9_ := Int32.toInt_toInt64 (((S3_.1 22) - (1 : Int32)))
  refine n_cP (nM_in  mS3_ ) (fun x310_ qx310_ => ?_)
  refine n_eq (fun c11_ => ?_) (fun c11_ => ?_)
  · skip
    exact ⟨_, _, rfl, JS3_⟩
  · skip
    refine n_lt (fun c12_ => ?_) (fun c12_ => ?_)
    · skip
      exact ⟨_, _, rfl, JS3_⟩
    · skip
      refine n_cP (nM_isTag  mS3_ ) (fun x513_ qx513_ => ?_)
      refine n_eq (fun c14_ => ?_) (fun c14_ => ?_)
      · skip
        exact ⟨_, _, rfl, JS3_⟩
      · skip
        have j15_ := Int32.toInt_toInt64 (a4)
        have L16_ : (2 : Int64).toInt = 2 := rfl
        refine n_cP (nM_in  mS3_ ) (fun x717_ qx717_ => ?_)
        refine n_eq (fun c18_ => ?_) (fun c18_ => ?_)
        · skip
          exact ⟨_, _, rfl, JS3_⟩
        · skip
          refine n_l2 (fun c19_ => ?_) (fun c19_ => ?_)
          · skip
            refine n_rI (L := 4) mS3_ (by decide) rfl (by omega) (by omega) (fun x920_ x920_e x920_l x920_u => ?_)
            refine n_le (fun c21_ => ?_) (fun c21_ => ?_)
            · skip
              unfold gM_columnOf_73
              refine n_rI (L := 4) mS3_ (by decide) rfl (by omega) (by omega) (fun x122_ x122_e x122_l x122_u => ?_)
              exact jM_columnOf_86 (fun _ q => q) _ _ _ _ _ _ _ _ _ _ _ _ mS3_ (fM_rf _ _) JS3_ (by first | omega | assumption) (by first | omega | assumption) (by first | omega | assumption) (by first | omega | assumption) (by first | omega | assumption) (by first | omega | assumption) (by first | omega | assumption) (by first | omega | assumption) (by first | omega | assumption) (by simp only [sm_fuel_eq]; omega)
            · skip
              unfold gM_columnOf_73
              refine n_rI (L := 4) mS3_ (by decide) rfl (by omega) (by omega) (fun x123_ x123_e x123_l x123_u => ?_)
              exact jM_columnOf_86 (fun _ q => q) _ _ _ _ _ _ _ _ _ _ _ _ mS3_ (fM_rf _ _) JS3_ (by first | omega | assumption) (by first | omega | assumption) (by first | omega | assumption) (by first | omega | assumption) (by first | omega | assumption) (by first | omega | assumption) (by first | omega | assumption) (by first | omega | assumption) (by first | omega | assumption) (by simp only [sm_fuel_eq]; omega)
          · skip
            exact ⟨_, _, rfl, JS3_⟩
-- gM_column
set_option maxHeartbeats 4000000 in
theorem jM_column {a1 : Int32} {a2 : Int32} {a3 : Int32} {a4 : Int32} {a5 : Int64} {a7 : Int64} {S : MS} (mS : MI S) (JS : JJ S)  : nJ (fun (_ : Int32) (S' : MS) => JJ S') (gM_column a1 a2 a3 a4 a5 a7 S) := by
  unfold gM_column
  have FS := fM_rf [0, 10, 11, 12, 13, 14, 15, 16, 17, 19, 20, 21, 25, 8, 9] S
  have L1_ : (0 : Int32).toInt = 0 := rfl
  have L2_ : (1 : Int32).toInt = 1 := rfl
  refine nj_mc (jM_columnOf mS JS (by first | omega | assumption) (by first | omega | assumption)) (fun x4_ S3_ JS3_ => ?_)
  exact ⟨_, _, rfl, JS3_⟩
-- gM_status
set_option maxHeartbeats 4000000 in
theorem jM_status {a1 : Int32} {a2 : Int32} {S : MS} (mS : MI S) (JS : JJ S)  : nJ (fun (_ : Int32) (S' : MS) => JJ S') (gM_status a1 a2 S) := by
  unfold gM_status
  have FS := fM_rf [0, 10, 11, 12, 13, 14, 15, 16, 17, 19, 20, 21, 25, 8, 9] S
  have L1_ : (0 : Int32).toInt = 0 := rfl
  have L2_ : (1 : Int32).toInt = 1 := rfl
  have L3_ : (2 : Int32).toInt = 2 := rfl
  have L4_ : (1 : Int64).toInt = 1 := rfl
  have L5_ : (6 : Int64).toInt = 6 := rfl
  refine nj_mc (jM_columnOf mS JS (by first | omega | assumption) (by first | omega | assumption)) (fun x7_ S6_ JS6_ => ?_)
  exact ⟨_, _, rfl, JS6_⟩
