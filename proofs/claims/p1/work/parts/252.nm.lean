-- gM_view
-- E: W 0 4 32 33 34 35
set_option maxHeartbeats 4000000 in
theorem nM_view {a1 a2 : Int32} {S : MS} (mS : MI S) (p0 : a2.toInt = 0 ∨ a2.toInt = 1) : nJ (NW [0, 4, 32, 33, 34, 35] S (fun (_ : Int32) (S' : MS) => (S'.1 4).toInt = 0)) (gM_view a1 a2 S) := by
  have L0 : (0 : Int32).toInt = 0 := rfl
  have L1 : (1 : Int32).toInt = 1 := rfl
  have L8 : (8 : Int32).toInt = 8 := rfl
  have J0 : (0 : Int64).toInt = 0 := rfl
  have J2 : (2 : Int64).toInt = 2 := rfl
  have J16 : (16 : Int64).toInt = 16 := rfl
  have j1 := Int32.toInt_toInt64 a1
  have r4 := mi_f mS 4 rfl
  unfold gM_view
  refine n_sI mS (fM_rf [0, 4, 32, 33, 34, 35] S) (by decide) rfl (i_lo _) (i_hi _) (fun S1 m1 F1 v1 g1 h1 => ?_)
  refine n_let ?_
  have q4 : (S1.1 4).toInt = (S.1 4).toInt := by rw [g1 4 (by decide)]
  have j4 := Int32.toInt_toInt64 (S1.1 4)
  refine n_sI m1 F1 (by decide) rfl (by omega) (by omega) (fun S3 m3 F3 v3 g3 h3 => ?_)
  have z3 : (S3.1 4).toInt = 0 := by rw [v3]; rfl
  refine n_let ?_
  have r28 := mi_f m3 28 rfl
  have i2 : (S3.1 28 - 1).toInt = (S3.1 28).toInt - (1 : Int32).toInt := i_sub (by omega) (by omega)
  have j2 := Int32.toInt_toInt64 (S3.1 28 - 1)
  refine n_cP (nM_in m3) (fun x5 q5 => ?_)
  refine n_eq (fun c => ?_) (fun c => ?_)
  · exact n_rW m3 F3 z3
  · refine n_cP (nM_in m3) (fun x7 q7 => ?_)
    refine n_eq (fun c2 => ?_) (fun c2 => ?_)
    · exact n_rW m3 F3 z3
    · refine n_rI (L := 8) m3 (by decide) rfl (by omega) (by omega) (fun x9 e9 l9 u9 => ?_)
      refine n_eq (fun c3 => ?_) (fun c3 => ?_)
      · exact n_rW m3 F3 z3
      · refine n_rI (L := 8) m3 (by decide) rfl (by omega) (by omega) (fun x10 e10 l10 u10 => ?_)
        refine n_let ?_
        have ex : x10 = x9 := by rw [e9, e10]
        subst ex
        have i1 : ((8 : Int32) * a1).toInt = 8 * a1.toInt := i_mul (n := 8) rfl (by omega) (by omega)
        have i3 : ((8 : Int32) * a1 + x10).toInt = ((8 : Int32) * a1).toInt + x10.toInt := i_add (by omega) (by omega)
        obtain ⟨r, S', e, hm, _⟩ := nM_view_80 (E := [32, 33, 34, 35]) (S0 := S3) (by decide) sm_fuel a1 a2 (S1.1 4) ((8 : Int32) * a1 + x10) 0 S3 m3 (fM_rf _ _) (by omega) (by omega) p0 (by omega) (by omega) (by omega) (by omega) (by omega) (by omega) (by rw [← e9]; omega) (by simp only [sm_fuel_eq]; omega)
        exact ⟨r, S', e, ⟨hm.1, fM_tr F3 hm.2 (by decide)⟩, by show (S'.1 4).toInt = 0; rw [hm.2.1 4 (by decide)]; exact z3⟩

-- gM_limit
set_option maxHeartbeats 4000000 in
theorem nM_limit {a1 : Int32} {S : MS} (mS : MI S)  : nJ (NW [0, 5] S (fun (r : Int32) (S' : MS) => True)) (gM_limit a1 S) := by
  unfold gM_limit
  have FS := fM_rf [0, 5] S
  have L1_ : (0 : Int32).toInt = 0 := rfl
  have L2_ : (1 : Int32).toInt = 1 := rfl
  refine n_sI mS FS (by first | decide | exact hE _ (by decide) | simp) rfl (i_lo _) (i_hi _) (fun S3_ mS3_ FS3_ vS3_ gS3_ hS3_ => ?_)
  have q4_ := congrArg Int32.toInt (gS3_ 5 (by decide))
  have j5_ := Int32.toInt_toInt64 (a1)
  have L6_ : (100 : Int64).toInt = 100 := rfl
  have L7_ : (1000 : Int64).toInt = 1000 := rfl
  refine n_cP (nM_in  mS3_ ) (fun x28_ qx28_ => ?_)
  refine n_eq (fun c9_ => ?_) (fun c9_ => ?_)
  · skip
    exact n_rW mS3_ FS3_ trivial
  · skip
    have r10_ := mi_f mS3_ 5 rfl
    refine n_let ?_
    refine n_sI mS3_ FS3_ (by first | decide | exact hE _ (by decide) | simp) rfl (by omega) (by omega) (fun S11_ mS11_ FS11_ vS11_ gS11_ hS11_ => ?_)
    exact n_rW mS11_ FS11_ trivial

-- gM_tick
set_option maxHeartbeats 4000000 in
theorem nM_tick {a1 : Int64} {S : MS} (mS : MI S)  : nJ (NW [0, 6] S (fun (r : Int64) (S' : MS) => True)) (gM_tick a1 S) := by
  unfold gM_tick
  have FS := fM_rf [0, 6] S
  have L1_ : (0 : Int32).toInt = 0 := rfl
  have L2_ : (1 : Int32).toInt = 1 := rfl
  refine n_sI mS FS (by first | decide | exact hE _ (by decide) | simp) rfl (i_lo _) (i_hi _) (fun S3_ mS3_ FS3_ vS3_ gS3_ hS3_ => ?_)
  have L4_ : (0 : Int64).toInt = 0 := rfl
  refine n_l1 (fun c5_ => ?_) (fun c5_ => ?_)
  · skip
    exact n_rW mS3_ FS3_ trivial
  · skip
    refine n_let ?_
    refine n_l2 (fun c6_ => ?_) (fun c6_ => ?_)
    · skip
      refine n_let ?_
      refine n_sC mS3_ FS3_ (by first | decide | exact hE _ (by decide) | simp) (fun S7_ mS7_ FS7_ vS7_ gS7_ hS7_ => ?_)
      refine n_let ?_
      exact n_rW mS7_ FS7_ trivial
    · skip
      exact n_rW mS3_ FS3_ trivial

-- gM_octet
set_option maxHeartbeats 4000000 in
theorem nM_octet {a1 : Int32} {S : MS} (mS : MI S)  (p0_ : 0 ≤ a1.toInt) (p1_ : a1.toInt ≤ 1200) : nJ (NW [44, 45] S (fun (r : Int32) (S' : MS) => 0 ≤ r.toInt ∧ r.toInt ≤ 255 ∧ (S.1 44).toInt ≤ (S'.1 44).toInt ∧ ((S'.1 45).toInt ≠ 0 ∨ ((S.1 45).toInt = 0 ∧ (S'.1 44).toInt = (S.1 44).toInt + 1 ∧ (S'.1 44).toInt ≤ a1.toInt)))) (gM_octet a1 S) := by
  unfold gM_octet
  have FS := fM_rf [44, 45] S
  have L1_ : (0 : Int32).toInt = 0 := rfl
  have L2_ : (1 : Int32).toInt = 1 := rfl
  have r3_ := mi_f mS 44 rfl
  refine n_let ?_
  refine n_lt (fun c4_ => ?_) (fun c4_ => ?_)
  · skip
    refine n_let ?_
    try have i5_ : ((S.1 44) + (1 : Int32)).toInt = (S.1 44).toInt + (1 : Int32).toInt := i_add (by omega) (by omega)
    refine n_sI mS FS (by first | decide | exact hE _ (by decide) | simp) rfl (by omega) (by omega) (fun S6_ mS6_ FS6_ vS6_ gS6_ hS6_ => ?_)
    have q7_ := congrArg Int32.toInt (gS6_ 45 (by decide))
    have q8_ := congrArg Int32.toInt vS6_
    have r9_ := mi_f mS6_ 44 rfl
    refine n_let ?_
    try have i10_ : ((S6_.1 44) - (1 : Int32)).toInt = (S6_.1 44).toInt - (1 : Int32).toInt := i_sub (by omega) (by omega)
    refine n_rI (L := 1200) mS6_ (by decide) rfl (by omega) (by omega) (fun x511_ x511_e x511_l x511_u => ?_)
    have b12_ := i_and255 (x511_)
    have r13_ := mi_f mS6_ 45 rfl
    exact n_rW mS6_ FS6_ (by omega)
  · skip
    have r14_ := mi_f mS 45 rfl
    refine n_let ?_
    refine n_eq (fun c15_ => ?_) (fun c15_ => ?_)
    · skip
      refine n_sI mS FS (by first | decide | exact hE _ (by decide) | simp) rfl (by omega) (by omega) (fun S16_ mS16_ FS16_ vS16_ gS16_ hS16_ => ?_)
      have q17_ := congrArg Int32.toInt (gS16_ 44 (by decide))
      have q18_ := congrArg Int32.toInt vS16_
      have r19_ := mi_f mS16_ 44 rfl
      have r20_ := mi_f mS16_ 45 rfl
      exact n_rW mS16_ FS16_ (by omega)
    · skip
      refine n_let ?_
      refine n_sI mS FS (by first | decide | exact hE _ (by decide) | simp) rfl (by omega) (by omega) (fun S21_ mS21_ FS21_ vS21_ gS21_ hS21_ => ?_)
      have q22_ := congrArg Int32.toInt (gS21_ 44 (by decide))
      have q23_ := congrArg Int32.toInt vS21_
      have r24_ := mi_f mS21_ 44 rfl
      have r25_ := mi_f mS21_ 45 rfl
      exact n_rW mS21_ FS21_ (by omega)

-- gM_size_65
-- E: W 44 45
theorem lN_t {v : Nat} (hv : v < 2 ^ 63) : (lN v).toInt = (v : Int) := by
  unfold lN
  rw [Int64.toInt_ofNat_of_lt hv]
def szP (p e r p' b' : Int) : Prop := p ≤ p' ∧ p' ≤ r ∧ r ≤ 1200 ∧ (b' ≠ 0 ∨ r ≤ e)
set_option maxHeartbeats 4000000 in
theorem nM_size_90 {E : List Nat} {S0 S : MS} {a1 : Int32} {v : Nat} (hE : ∀ k ∈ [44, 45], k ∈ E) (m : MI S) (F : fM E S0 S) (p0 : 0 ≤ a1.toInt) (p1 : a1.toInt ≤ 1200) (hv : v < 2 ^ 40) (ha : (S0.1 44).toInt ≤ (S.1 44).toInt) : nJ (NW E S0 (fun (r : Int32) (S' : MS) => szP (S0.1 44).toInt a1.toInt r.toInt (S'.1 44).toInt (S'.1 45).toInt)) (gM_size_90 a1 (lN v) S) := by
  have L0 : (0 : Int32).toInt = 0 := rfl
  have L1 : (1 : Int32).toInt = 1 := rfl
  have r44 := mi_f m 44 rfl
  have r45 := mi_f m 45 rfl
  have lv := lN_t (v := v) (by omega)
  have i1 : (a1 - S.1 44).toInt = a1.toInt - (S.1 44).toInt := i_sub (by omega) (by omega)
  have j1 := Int32.toInt_toInt64 (a1 - S.1 44)
  unfold gM_size_90 gM_size_114
  refine n_let ?_
  refine n_eq (fun c => ?_) (fun c => ?_)
  · refine n_let ?_
    refine n_l2 (fun c2 => ?_) (fun c2 => ?_)
    · refine n_let ?_
      refine n_eq (fun c3 => ?_) (fun c3 => ?_)
      · refine n_let ?_
        have i2 : (lN v).toInt32.toInt = (v : Int) := by rw [j_n32 (by omega) (by omega), lv]
        have i3 : (S.1 44 + (lN v).toInt32).toInt = (S.1 44).toInt + (v : Int) := by rw [i_add (by omega) (by omega), i2]
        exact n_rW m F ⟨ha, by omega, by omega, Or.inr (by omega)⟩
      · exact absurd c c3
    · refine n_sI m F (hE _ (by decide)) rfl (by omega) (by omega) (fun S3 m3 F3 v3 g3 h3 => ?_)
      have q44 : (S3.1 44).toInt = (S.1 44).toInt := by rw [g3 44 (by decide)]
      have q45 : (S3.1 45).toInt = 1 := by rw [v3]; rfl
      refine n_let ?_
      refine n_eq (fun c3 => ?_) (fun c3 => ?_)
      · exfalso; omega
      · refine n_let ?_
        exact n_rW m3 F3 ⟨by omega, by omega, by omega, Or.inl (by omega)⟩
  · refine n_let ?_
    refine n_eq (fun c3 => ?_) (fun c3 => ?_)
    · exact absurd c3 c
    · refine n_let ?_
      exact n_rW m F ⟨ha, by omega, by omega, Or.inl (by omega)⟩
set_option maxHeartbeats 4000000 in
theorem nM_size_65 {E : List Nat} {S0 : MS} (hE : ∀ k ∈ [44, 45], k ∈ E) : ∀ (n : Nat) (a1 : Int32) (v : Nat) (a4 a5 : Int32) (S : MS), MI S → fM E S0 S → 0 ≤ a1.toInt → a1.toInt ≤ 1200 → 0 ≤ a5.toInt → a4.toInt ≤ 4 → a5.toInt ≤ 4 → v < 256 ^ a5.toInt.toNat → (S0.1 44).toInt ≤ (S.1 44).toInt → 4 - a5.toInt < (n : Int) → nJ (NW E S0 (fun (r : Int32) (S' : MS) => szP (S0.1 44).toInt a1.toInt r.toInt (S'.1 44).toInt (S'.1 45).toInt)) (gM_size_65 n a1 (lN v) a4 a5 S) := by
  have L1 : (1 : Int32).toInt = 1 := rfl
  intro n
  induction n with
  | zero => intro a1 v a4 a5 S m F p0 p1 p2 p3 p4 hv ha q; exfalso; omega
  | succ n ih =>
    intro a1 v a4 a5 S m F p0 p1 p2 p3 p4 hv ha q
    have hp : (256 : Nat) ^ a5.toInt.toNat ≤ 256 ^ 4 := Nat.pow_le_pow_right (by decide) (by omega)
    unfold gM_size_65
    refine n_le (fun c => ?_) (fun c => ?_)
    · exact nM_size_90 hE m F p0 p1 (by omega) ha
    · refine n_cW F (nM_octet m p0 p1) (fun k hk => hE k (by revert hk; revert k; decide)) (fun x1 S2 m2 F2 f2 q2 => ?_)
      obtain ⟨x, hx, rfl, ex⟩ := nI_e (B := 255) q2.1 q2.2.1
      refine n_letv (fun x3 hx3 => ?_)
      rw [sh8 (by omega) (by omega)] at hx3
      subst hx3
      refine n_letv (fun x4 hx4 => ?_)
      have i4 : x4.toInt = a5.toInt + 1 := by rw [hx4]; exact i_add1 (by omega)
      refine ih _ _ _ _ _ m2 F2 p0 p1 (by omega) p3 (by omega) ?_ (by omega) (by omega)
      rw [i4, show (a5.toInt + 1).toNat = a5.toInt.toNat + 1 by omega, Nat.pow_succ]
      omega

-- gM_size
-- E: W 44 45
set_option maxHeartbeats 4000000 in
theorem nM_size {a1 : Int32} {S : MS} (mS : MI S) (p0 : 0 ≤ a1.toInt) (p1 : a1.toInt ≤ 1200) : nJ (NW [44, 45] S (fun (r : Int32) (S' : MS) => (S.1 44).toInt ≤ (S'.1 44).toInt ∧ (S'.1 44).toInt ≤ r.toInt ∧ r.toInt ≤ 1200 ∧ ((S'.1 45).toInt ≠ 0 ∨ r.toInt ≤ a1.toInt))) (gM_size a1 S) := by
  have L0 : (0 : Int32).toInt = 0 := rfl
  have L1 : (1 : Int32).toInt = 1 := rfl
  have L128 : (128 : Int32).toInt = 128 := rfl
  have J128 : (128 : Int64).toInt = 128 := rfl
  have J1 : (1 : Int64).toInt = 1 := rfl
  have J4 : (4 : Int64).toInt = 4 := rfl
  unfold gM_size
  refine n_cW (fM_rf [44, 45] S) (nM_octet mS p0 p1) (by decide) (fun x1 S2 m2 F2 f2 q2 => ?_)
  have r44 := mi_f m2 44 rfl
  have r45 := mi_f m2 45 rfl
  obtain ⟨x, hx, rfl, ex⟩ := nI_e (B := 255) q2.1 q2.2.1
  have j1 := Int32.toInt_toInt64 (nI x)
  have e3 : (nI x).toInt64 = lN x := Int64.toInt_inj.mp (by rw [j1, ex, lN_t (by omega)])
  refine n_letv (fun x3 hx3 => ?_)
  rw [e3] at hx3 j1
  subst hx3
  refine n_l1 (fun c => ?_) (fun c => ?_)
  · exact nM_size_90 (by decide) m2 F2 p0 p1 (by omega) q2.2.2.1
  · refine n_letv (fun x4 hx4 => ?_)
    have i4 : x4.toInt = (x : Int) - 128 := by
      rw [hx4]
      have := j_n32 (x := lN x) (by omega) (by omega)
      rw [i_sub (by omega) (by omega)]; omega
    have j4 := Int32.toInt_toInt64 x4
    refine n_cP (nM_in m2) (fun x5 q5 => ?_)
    refine n_eq (fun c2 => ?_) (fun c2 => ?_)
    · refine n_let ?_
      refine n_eq (fun c3 => ?_) (fun c3 => ?_)
      · refine n_sI m2 F2 (by decide) rfl (by omega) (by omega) (fun S3 m3 F3 v3 g3 h3 => ?_)
        have q44 : (S3.1 44).toInt = (S2.1 44).toInt := by rw [g3 44 (by decide)]
        have q45 : (S3.1 45).toInt = 1 := by rw [v3]; rfl
        refine n_let ?_
        exact n_rW m3 F3 ⟨by omega, by omega, by omega, Or.inl (by omega)⟩
      · refine n_let ?_
        refine n_sI m2 F2 (by decide) rfl (by omega) (by omega) (fun S3 m3 F3 v3 g3 h3 => ?_)
        have q44 : (S3.1 44).toInt = (S2.1 44).toInt := by rw [g3 44 (by decide)]
        have q45 : (S3.1 45).toInt = (S2.1 45).toInt := by rw [v3]
        refine n_let ?_
        exact n_rW m3 F3 ⟨by omega, by omega, by omega, Or.inl (by omega)⟩
    · exact nM_size_65 (by decide) sm_fuel a1 0 x4 0 S2 m2 F2 p0 p1 (by omega) (by omega) (by omega) (by decide) (by omega) (by simp only [sm_fuel_eq]; omega)

-- gM_field
set_option maxHeartbeats 4000000 in
theorem nM_field {a1 : Int32} {a2 : Int32} {S : MS} (mS : MI S)  (p0_ : 0 ≤ a2.toInt) (p1_ : a2.toInt ≤ 1200) : nJ (NW [44, 45] S (fun (r : Int32) (S' : MS) => (S.1 44).toInt ≤ (S'.1 44).toInt ∧ (S'.1 44).toInt ≤ r.toInt ∧ r.toInt ≤ 1200 ∧ ((S'.1 45).toInt ≠ 0 ∨ r.toInt ≤ a2.toInt))) (gM_field a1 a2 S) := by
  unfold gM_field
  have FS := fM_rf [44, 45] S
  have L1_ : (0 : Int32).toInt = 0 := rfl
  have L2_ : (1 : Int32).toInt = 1 := rfl
  refine n_cW FS (nM_octet  mS (by first | omega | assumption) (by first | omega | assumption)) (by first | decide | (intro k q; exact hE k (by revert q; revert k; decide))) (fun x13_ S4_ mS4_ FS4_ fS4_ qx13_ => ?_)
  have r5_ := mi_f mS4_ 44 rfl
  have r6_ := mi_f mS4_ 45 rfl
  refine n_let ?_
  refine n_eq (fun c7_ => ?_) (fun c7_ => ?_)
  · skip
    refine n_eq (fun c8_ => ?_) (fun c8_ => ?_)
    · skip
      refine n_cW FS4_ (nM_size  mS4_ (by first | omega | assumption) (by first | omega | assumption)) (by first | decide | (intro k q; exact hE k (by revert q; revert k; decide))) (fun x69_ S10_ mS10_ FS10_ fS10_ qx69_ => ?_)
      have r11_ := mi_f mS10_ 44 rfl
      have r12_ := mi_f mS10_ 45 rfl
      exact n_rW mS10_ FS10_ (by omega)
    · skip
      refine n_sI mS4_ FS4_ (by first | decide | exact hE _ (by decide) | simp) rfl (by omega) (by omega) (fun S13_ mS13_ FS13_ vS13_ gS13_ hS13_ => ?_)
      have q14_ := congrArg Int32.toInt (gS13_ 44 (by decide))
      have q15_ := congrArg Int32.toInt vS13_
      refine n_cW FS13_ (nM_size  mS13_ (by first | omega | assumption) (by first | omega | assumption)) (by first | decide | (intro k q; exact hE k (by revert q; revert k; decide))) (fun x916_ S17_ mS17_ FS17_ fS17_ qx916_ => ?_)
      have r18_ := mi_f mS17_ 44 rfl
      have r19_ := mi_f mS17_ 45 rfl
      exact n_rW mS17_ FS17_ (by omega)
  · skip
    refine n_cW FS4_ (nM_size  mS4_ (by first | omega | assumption) (by first | omega | assumption)) (by first | decide | (intro k q; exact hE k (by revert q; revert k; decide))) (fun x420_ S21_ mS21_ FS21_ fS21_ qx420_ => ?_)
    have r22_ := mi_f mS21_ 44 rfl
    have r23_ := mi_f mS21_ 45 rfl
    exact n_rW mS21_ FS21_ (by omega)

-- gM_read_57
set_option maxHeartbeats 4000000 in
theorem nM_read_57 {E : List Nat} {S0 : MS} (hE : ∀ k ∈ [44, 45, 58], k ∈ E) : ∀ (n : Nat) (a1 : Int32) (a2 : Int32) (a3 : Int32) (a4 : Int64) (a6 : Int32) (S : MS), MI S → fM E S0 S → 0 ≤ a1.toInt → a1.toInt ≤ 1200 → 0 ≤ a2.toInt → a2.toInt ≤ 9 → (S.1 44).toInt + a2.toInt = a1.toInt → 1 ≤ a6.toInt → a6.toInt ≤ 9 → 9 - a6.toInt < (n : Int) → nJ (NW E S0 (fun (r : Int64) (S' : MS) => True)) (gM_read_57 n a1 a2 a3 a4 a6 S) := by
  intro n
  induction n with
  | zero => intro a1 a2 a3 a4 a6 S mS FS p0_ p1_ p2_ p3_ p4_ p5_ p6_ m_; exfalso; omega
  | succ n ih =>
    intro a1 a2 a3 a4 a6 S mS FS p0_ p1_ p2_ p3_ p4_ p5_ p6_ m_
    unfold gM_read_57
    have L1_ : (0 : Int32).toInt = 0 := rfl
    have L2_ : (1 : Int32).toInt = 1 := rfl
    refine n_le (fun c3_ => ?_) (fun c3_ => ?_)
    · skip
      refine n_sI mS FS (by first | decide | exact hE _ (by decide) | simp) rfl (by omega) (by omega) (fun S4_ mS4_ FS4_ vS4_ gS4_ hS4_ => ?_)
      rw [if_pos (by first | decide | exact b_of (by omega))]
      refine n_sI mS4_ FS4_ (by first | decide | exact hE _ (by decide) | simp) rfl (by omega) (by omega) (fun S5_ mS5_ FS5_ vS5_ gS5_ hS5_ => ?_)
      have L6_ : (9 : Int32).toInt = 9 := rfl
      refine n_eq (fun c7_ => ?_) (fun c7_ => ?_)
      · skip
        refine n_eq (fun c8_ => ?_) (fun c8_ => ?_)
        · skip
          have L9_ : (0 : Int64).toInt = 0 := rfl
          refine n_l4 (fun c10_ => ?_) (fun c10_ => ?_)
          · skip
            unfold gM_read_127
            rw [if_pos (by first | decide | exact b_of (by omega))]
            refine n_sI mS5_ FS5_ (by first | decide | exact hE _ (by decide) | simp) rfl (by omega) (by omega) (fun S11_ mS11_ FS11_ vS11_ gS11_ hS11_ => ?_)
            refine n_eq (fun c12_ => ?_) (fun c12_ => ?_)
            · skip
              unfold gM_read_151
              rw [if_neg (by decide)]
              refine n_sI mS11_ FS11_ (by first | decide | exact hE _ (by decide) | simp) rfl (by omega) (by omega) (fun S13_ mS13_ FS13_ vS13_ gS13_ hS13_ => ?_)
              exact n_rW mS13_ FS13_ trivial
            · skip
              have L14_ : (-1 : Int32).toInt = -1 := rfl
              refine n_eq (fun c15_ => ?_) (fun c15_ => ?_)
              · skip
                refine n_l4 (fun c16_ => ?_) (fun c16_ => ?_)
                · skip
                  unfold gM_read_151
                  rw [if_pos (by decide)]
                  refine n_sI mS11_ FS11_ (by first | decide | exact hE _ (by decide) | simp) rfl (by omega) (by omega) (fun S17_ mS17_ FS17_ vS17_ gS17_ hS17_ => ?_)
                  exact n_rW mS17_ FS17_ trivial
                · skip
                  unfold gM_read_151
                  rw [if_neg (by decide)]
                  refine n_sI mS11_ FS11_ (by first | decide | exact hE _ (by decide) | simp) rfl (by omega) (by omega) (fun S18_ mS18_ FS18_ vS18_ gS18_ hS18_ => ?_)
                  exact n_rW mS18_ FS18_ trivial
              · skip
                unfold gM_read_151
                rw [if_pos (by decide)]
                refine n_sI mS11_ FS11_ (by first | decide | exact hE _ (by decide) | simp) rfl (by omega) (by omega) (fun S19_ mS19_ FS19_ vS19_ gS19_ hS19_ => ?_)
                exact n_rW mS19_ FS19_ trivial
          · skip
            unfold gM_read_127
            rw [if_pos (by first | decide | exact b_of (by omega))]
            refine n_sI mS5_ FS5_ (by first | decide | exact hE _ (by decide) | simp) rfl (by omega) (by omega) (fun S20_ mS20_ FS20_ vS20_ gS20_ hS20_ => ?_)
            refine n_eq (fun c21_ => ?_) (fun c21_ => ?_)
            · skip
              unfold gM_read_151
              rw [if_neg (by decide)]
              refine n_sI mS20_ FS20_ (by first | decide | exact hE _ (by decide) | simp) rfl (by omega) (by omega) (fun S22_ mS22_ FS22_ vS22_ gS22_ hS22_ => ?_)
              exact n_rW mS22_ FS22_ trivial
            · skip
              have L23_ : (-1 : Int32).toInt = -1 := rfl
              refine n_eq (fun c24_ => ?_) (fun c24_ => ?_)
              · skip
                refine n_l4 (fun c25_ => ?_) (fun c25_ => ?_)
                · skip
                  unfold gM_read_151
                  rw [if_pos (by decide)]
                  refine n_sI mS20_ FS20_ (by first | decide | exact hE _ (by decide) | simp) rfl (by omega) (by omega) (fun S26_ mS26_ FS26_ vS26_ gS26_ hS26_ => ?_)
                  exact n_rW mS26_ FS26_ trivial
                · skip
                  unfold gM_read_151
                  rw [if_neg (by decide)]
                  refine n_sI mS20_ FS20_ (by first | decide | exact hE _ (by decide) | simp) rfl (by omega) (by omega) (fun S27_ mS27_ FS27_ vS27_ gS27_ hS27_ => ?_)
                  exact n_rW mS27_ FS27_ trivial
              · skip
                unfold gM_read_151
                rw [if_pos (by decide)]
                refine n_sI mS20_ FS20_ (by first | decide | exact hE _ (by decide) | simp) rfl (by omega) (by omega) (fun S28_ mS28_ FS28_ vS28_ gS28_ hS28_ => ?_)
                exact n_rW mS28_ FS28_ trivial
        · skip
          unfold gM_read_127
          rw [if_pos (by first | decide | exact b_of (by omega))]
          refine n_sI mS5_ FS5_ (by first | decide | exact hE _ (by decide) | simp) rfl (by omega) (by omega) (fun S29_ mS29_ FS29_ vS29_ gS29_ hS29_ => ?_)
          refine n_eq (fun c30_ => ?_) (fun c30_ => ?_)
          · skip
            unfold gM_read_151
            rw [if_neg (by decide)]
            refine n_sI mS29_ FS29_ (by first | decide | exact hE _ (by decide) | simp) rfl (by omega) (by omega) (fun S31_ mS31_ FS31_ vS31_ gS31_ hS31_ => ?_)
            exact n_rW mS31_ FS31_ trivial
          · skip
            have L32_ : (-1 : Int32).toInt = -1 := rfl
            refine n_eq (fun c33_ => ?_) (fun c33_ => ?_)
            · skip
              have L34_ : (0 : Int64).toInt = 0 := rfl
              refine n_l4 (fun c35_ => ?_) (fun c35_ => ?_)
              · skip
                unfold gM_read_151
                rw [if_pos (by decide)]
                refine n_sI mS29_ FS29_ (by first | decide | exact hE _ (by decide) | simp) rfl (by omega) (by omega) (fun S36_ mS36_ FS36_ vS36_ gS36_ hS36_ => ?_)
                exact n_rW mS36_ FS36_ trivial
              · skip
                unfold gM_read_151
                rw [if_neg (by decide)]
                refine n_sI mS29_ FS29_ (by first | decide | exact hE _ (by decide) | simp) rfl (by omega) (by omega) (fun S37_ mS37_ FS37_ vS37_ gS37_ hS37_ => ?_)
                exact n_rW mS37_ FS37_ trivial
            · skip
              unfold gM_read_151
              rw [if_pos (by decide)]
              refine n_sI mS29_ FS29_ (by first | decide | exact hE _ (by decide) | simp) rfl (by omega) (by omega) (fun S38_ mS38_ FS38_ vS38_ gS38_ hS38_ => ?_)
              exact n_rW mS38_ FS38_ trivial
      · skip
        exact n_rW mS5_ FS5_ trivial
    · skip
      have r39_ := mi_f mS 44 rfl
      refine n_let ?_
      try have i40_ : ((S.1 44) + a6).toInt = (S.1 44).toInt + a6.toInt := i_add (by omega) (by omega)
      refine n_rI (L := 1200) mS (by decide) rfl (by omega) (by omega) (fun x441_ x441_e x441_l x441_u => ?_)
      refine n_let ?_
      try have i43_ : (a6 + (1 : Int32)).toInt = a6.toInt + (1 : Int32).toInt := i_add (by omega) (by omega)
      refine n_letv (fun x642_ x642_v => ?_)
      have x642_t := congrArg Int32.toInt x642_v
      exact ih a1 a2 a3 (((a4 <<< ((8 : Int32).toInt64 &&& 63)) ||| ((x441_ &&& (255 : Int32)).toInt64))) x642_ S mS FS (by first | omega | assumption) (by first | omega | assumption) (by first | omega | assumption) (by first | omega | assumption) (by first | omega | assumption) (by first | omega | assumption) (by first | omega | assumption) (by omega)
