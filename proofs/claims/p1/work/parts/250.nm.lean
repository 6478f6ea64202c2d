-- gM_makeRow_3
-- E: W 17 19 20 21 26 27
set_option maxHeartbeats 4000000 in
theorem nM_makeRow_3 {E : List Nat} {S0 : MS} (hE : ∀ k ∈ [17, 19, 20, 21, 26, 27], k ∈ E) : ∀ (n : Nat) (a1 a2 : Int32) (a3 : Int64) (a5 : Int32) (S : MS), MI S → fM E S0 S → 0 ≤ a1.toInt → a1.toInt ≤ 3 → 1 ≤ a2.toInt → 0 ≤ a5.toInt → a5.toInt ≤ 15 → (S.2.2.1 26 a1.toInt.toNat).toInt ≤ 15 → cnt (S.2.2.1 27) (16 * a1.toInt.toNat) a5.toInt.toNat = a5.toInt → 16 - a5.toInt < (n : Int) → nJ (NW E S0 (fun (_ : Unit) (_ : MS) => True)) (gM_makeRow_3 n a1 a2 a3 a5 S) := by
  have L0 : (0 : Int32).toInt = 0 := rfl
  have L1 : (1 : Int32).toInt = 1 := rfl
  intro n
  induction n with
  | zero => intro a1 a2 a3 a5 S m F p0 p1 p2 p3 p4 p5 p6 q; exfalso; omega
  | succ n ih =>
    intro a1 a2 a3 a5 S m F p0 p1 p2 p3 p4 p5 p6 q
    have i1 : ((16 : Int32) * a1).toInt = 16 * a1.toInt := i_mul (n := 16) rfl (by omega) (by omega)
    have i2 : ((16 : Int32) * a1 + a5).toInt = ((16 : Int32) * a1).toInt + a5.toInt := i_add (by omega) (by omega)
    have i3 : (a5 + 1).toInt = a5.toInt + 1 := i_add1 (by omega)
    have hix : ((16 : Int32) * a1 + a5).toInt.toNat = 16 * a1.toInt.toNat + a5.toInt.toNat := by omega
    unfold gM_makeRow_3
    refine n_rI (L := 64) m (by decide) rfl (by omega) (by omega) (fun x e l u => ?_)
    rw [hix] at e
    refine n_le (fun c => ?_) (fun c => ?_)
    · refine n_two (wf := fun x => x + 1) m F (hE _ (by decide)) (hE _ (by decide)) p0 p1 (by omega) (by omega) (by omega) ?_ (fun S1 m1 F1 _ => ?_)
      · have rl := row_le m (t := a1.toInt.toNat) (by omega)
        rw [hix, ← e, if_neg (by omega), if_pos (by omega), i_add1 (by omega)]
        omega
      · exact nM_makeRow_50 (fun k hk => hE k (by revert hk; revert k; decide)) _ _ _ _ _ _ m1 F1 p0 p1 p3 p4 (by omega) (by omega) (by simp only [sm_fuel_eq]; omega)
    · have hc : cnt (S.2.2.1 27) (16 * a1.toInt.toNat) (a5.toInt.toNat + 1) = a5.toInt + 1 := by
        unfold cnt
        rw [p6, ← e, if_pos (by omega)]
      have h15 : a5.toInt ≤ 14 := by
        rcases Int.lt_or_le a5.toInt 15 with hh | hh
        · omega
        · have h16 : a5.toInt.toNat + 1 = 16 := by omega
          rw [h16] at hc
          have := m.2.2 a1.toInt.toNat (by omega)
          omega
      refine n_let ?_
      exact ih _ _ _ _ _ m F p0 p1 p2 (by omega) (by omega) p5 (by rw [i3]; rw [show (a5.toInt + 1).toNat = a5.toInt.toNat + 1 by omega]; exact hc) (by omega)

-- gM_makeRow
-- E: W 17 19 20 21 26 27
theorem nM_makeRow {a1 a2 : Int32} {a3 : Int64} {S : MS} (mS : MI S) (p0 : 0 ≤ a1.toInt) (p1 : a1.toInt ≤ 3) (p2 : 1 ≤ a2.toInt) (p3 : (S.2.2.1 26 a1.toInt.toNat).toInt ≤ 15) : nJ (NW [17, 19, 20, 21, 26, 27] S (fun (_ : Unit) (_ : MS) => True)) (gM_makeRow a1 a2 a3 S) := by
  unfold gM_makeRow
  exact nM_makeRow_3 (by decide) _ _ _ _ _ _ mS (fM_rf _ S) p0 p1 p2 (by decide) (by decide) p3 rfl (by simp only [sm_fuel_eq]; decide)

-- gM_dropRow
-- E: W 26 27
theorem nM_dropRow {a1 a2 : Int32} {S : MS} (mS : MI S) (p0 : 0 ≤ a1.toInt) (p1 : a1.toInt ≤ 3) (p2 : 0 ≤ a2.toInt) (p3 : a2.toInt ≤ 15) (p4 : 0 < (S.2.2.1 27 (16 * a1.toInt + a2.toInt).toNat).toInt) : nJ (NW [26, 27] S (fun (_ : Unit) (_ : MS) => True)) (gM_dropRow a1 a2 S) := by
  have i1 : ((16 : Int32) * a1).toInt = 16 * a1.toInt := i_mul (n := 16) rfl (by omega) (by omega)
  have i2 : ((16 : Int32) * a1 + a2).toInt = ((16 : Int32) * a1).toInt + a2.toInt := i_add (by omega) (by omega)
  have L0 : (0 : Int32).toInt = 0 := rfl
  have L1 : (1 : Int32).toInt = 1 := rfl
  have rl := row_le mS (t := a1.toInt.toNat) (by omega)
  have hp := cnt_pos (f := S.2.2.1 27) (a := 16 * a1.toInt.toNat) (j := (16 * a1.toInt + a2.toInt).toNat) 16 (by omega) (by omega) p4
  have hc := mS.2.2 a1.toInt.toNat (by omega)
  unfold gM_dropRow
  refine n_two (wf := fun x => x - 1) mS (fM_rf [26, 27] S) (by decide) (by decide) p0 p1 (by omega) (by omega) (by decide) ?_ (fun S1 m1 F1 _ => n_rW m1 F1 trivial)
  rw [i2, i1, if_pos p4, if_neg (by decide), i_sub (by omega) (by omega)]
  omega

-- gM_row
-- E: W 0 17 19 20 21 26 27
set_option maxHeartbeats 4000000 in
theorem nM_row {a1 a2 a3 : Int32} {S : MS} (mS : MI S) (p0 : a3.toInt = 0 ∨ a3.toInt = 1) : nJ (NW [0, 17, 19, 20, 21, 26, 27] S (fun (_ : Int32) (_ : MS) => True)) (gM_row a1 a2 a3 S) := by
  have L0 : (0 : Int32).toInt = 0 := rfl
  have L1 : (1 : Int32).toInt = 1 := rfl
  have L16 : (16 : Int32).toInt = 16 := rfl
  have J0 : (0 : Int64).toInt = 0 := rfl
  have j1 := Int32.toInt_toInt64 a1
  unfold gM_row
  refine n_sI mS (fM_rf [0, 17, 19, 20, 21, 26, 27] S) (by decide) rfl (i_lo _) (i_hi _) (fun S1 m1 F1 v1 g1 h1 => ?_)
  have r22 := mi_f m1 22 rfl
  refine n_let ?_
  have i2 : (S1.1 22 - 1).toInt = (S1.1 22).toInt - (1 : Int32).toInt := i_sub (by omega) (by omega)
  have j2 := Int32.toInt_toInt64 (S1.1 22 - 1)
  refine n_cP (nM_in m1) (fun x3 q3 => ?_)
  refine n_eq (fun c => ?_) (fun c => ?_)
  · exact n_rW m1 F1 trivial
  · refine n_le (fun c2 => ?_) (fun c2 => ?_)
    · refine n_cP (nM_placeOf m1 (by omega) (by omega)) (fun x5 q5 => ?_)
      have main : ∀ s0 : Int32, ((s0.toInt = 0 ∧ x5.toInt < 0) ∨ (s0.toInt = 1 ∧ 0 ≤ x5.toInt)) → nJ (NW [0, 17, 19, 20, 21, 26, 27] S (fun (_ : Int32) (_ : MS) => True)) (gM_row_50 a1 a2 a3 x5 s0 S1) := by
        intro s0 hs
        unfold gM_row_50
        refine n_eq (fun c4 => ?_) (fun c4 => ?_)
        · exact n_rW m1 F1 trivial
        · refine n_eq (fun c5 => ?_) (fun c5 => ?_)
          · have hx : 0 ≤ x5.toInt := by omega
            rcases q5 with q5 | ⟨q51, q52, q53⟩
            · omega
            · refine n_cW F1 (nM_dropRow m1 (by omega) (by omega) q51 q52 q53) (by decide) (fun _ S5 m5 F5 _ _ => ?_)
              exact n_rW m5 F5 trivial
          · refine n_rI (L := 4) m1 (by decide) rfl (by omega) (by omega) (fun x1 e1 _ _ => ?_)
            have rl := row_le m1 (t := a1.toInt.toNat) (by omega)
            rw [← e1] at rl
            refine n_eq (fun c6 => ?_) (fun c6 => ?_)
            · exact n_rW m1 F1 trivial
            · refine n_cW F1 (nM_makeRow m1 (by omega) (by omega) (by omega) (by rw [← e1]; omega)) (by decide) (fun _ S5 m5 F5 _ _ => ?_)
              exact n_rW m5 F5 trivial
      refine n_lt (fun c3 => ?_) (fun c3 => ?_)
      · exact main 0 (Or.inl ⟨rfl, by omega⟩)
      · exact main 1 (Or.inr ⟨rfl, by omega⟩)
    · exact n_rW m1 F1 trivial

-- gM_instance
set_option maxHeartbeats 4000000 in
theorem nM_instance {a1 : Int32} {a2 : Int32} {S : MS} (mS : MI S)  : nJ (NP S (fun r : Int32 => r.toInt = -1 ∨ (0 ≤ r.toInt ∧ r.toInt ≤ 639 ∧ 0 ≤ a1.toInt ∧ a1.toInt ≤ 39))) (gM_instance a1 a2 S) := by
  unfold gM_instance
  have L1_ : (0 : Int32).toInt = 0 := rfl
  have L2_ : (1 : Int32).toInt = 1 := rfl
  have r3_ := mi_f mS 8 rfl
  refine n_let ?_
  have j4_ := Int32.toInt_toInt64 (a1)
  have L5_ : (0 : Int64).toInt = 0 := rfl
  try have i6_ : ((S.1 8) - (1 : Int32)).toInt = (S.1 8).toInt - (1 : Int32).toInt := i_sub (by omega) (by omega)
  have j7_ := Int32.toInt_toInt64 (((S.1 8) - (1 : Int32)))
  refine n_cP (nM_in  mS ) (fun x28_ qx28_ => ?_)
  refine n_eq (fun c9_ => ?_) (fun c9_ => ?_)
  · skip
    have L10_ : (-1 : Int32).toInt = -1 := rfl
    exact n_rP (by omega)
  · skip
    refine n_rI (L := 40) mS (by decide) rfl (by omega) (by omega) (fun x411_ x411_e x411_l x411_u => ?_)
    refine n_le (fun c12_ => ?_) (fun c12_ => ?_)
    · skip
      refine n_rI (L := 40) mS (by decide) rfl (by omega) (by omega) (fun x513_ x513_e x513_l x513_u => ?_)
      have q14_ : x513_.toInt = x411_.toInt := by rw [x513_e, x411_e]
      have j15_ := Int32.toInt_toInt64 (a2)
      refine n_cP (nM_placeOf  mS (by first | omega | assumption) (by first | omega | assumption)) (fun x616_ qx616_ => ?_)
      have x616_z := plc_b qx616_
      refine n_le (fun c17_ => ?_) (fun c17_ => ?_)
      · skip
        have L18_ : (16 : Int32).toInt = 16 := rfl
        try have i19_ : ((16 : Int32) * a1).toInt = 16 * a1.toInt := i_mul (n := 16) rfl (by omega) (by omega)
        try have i20_ : (((16 : Int32) * a1) + x616_).toInt = ((16 : Int32) * a1).toInt + x616_.toInt := i_add (by omega) (by omega)
        exact n_rP (by omega)
      · skip
        have L21_ : (-1 : Int32).toInt = -1 := rfl
        exact n_rP (by omega)
    · skip
      refine n_eq (fun c22_ => ?_) (fun c22_ => ?_)
      · skip
        have L23_ : (16 : Int32).toInt = 16 := rfl
        try have i24_ : ((16 : Int32) * a1).toInt = 16 * a1.toInt := i_mul (n := 16) rfl (by omega) (by omega)
        exact n_rP (by omega)
      · skip
        have L25_ : (-1 : Int32).toInt = -1 := rfl
        exact n_rP (by omega)

-- gM_value
set_option maxHeartbeats 4000000 in
theorem nM_value {a1 : Int32} {a2 : Int32} {a3 : Int64} {S : MS} (mS : MI S)  : nJ (NW [0, 17] S (fun (r : Int32) (S' : MS) => True)) (gM_value a1 a2 a3 S) := by
  unfold gM_value
  have FS := fM_rf [0, 17] S
  have L1_ : (0 : Int32).toInt = 0 := rfl
  have L2_ : (1 : Int32).toInt = 1 := rfl
  refine n_sI mS FS (by first | decide | exact hE _ (by decide) | simp) rfl (i_lo _) (i_hi _) (fun S3_ mS3_ FS3_ vS3_ gS3_ hS3_ => ?_)
  refine n_cP (nM_instance  mS3_ ) (fun x24_ qx24_ => ?_)
  refine n_lt (fun c5_ => ?_) (fun c5_ => ?_)
  · skip
    exact n_rW mS3_ FS3_ trivial
  · skip
    refine n_rI (L := 40) mS3_ (by decide) rfl (by omega) (by omega) (fun x46_ x46_e x46_l x46_u => ?_)
    have L7_ : (4 : Int32).toInt = 4 := rfl
    refine n_eq (fun c8_ => ?_) (fun c8_ => ?_)
    · skip
      exact n_rW mS3_ FS3_ trivial
    · skip
      refine n_rI (L := 40) mS3_ (by decide) rfl (by omega) (by omega) (fun x59_ x59_e x59_l x59_u => ?_)
      have q10_ : x59_.toInt = x46_.toInt := by rw [x59_e, x46_e]
      have L11_ : (6 : Int32).toInt = 6 := rfl
      refine n_eq (fun c12_ => ?_) (fun c12_ => ?_)
      · skip
        exact n_rW mS3_ FS3_ trivial
      · skip
        refine n_rI (L := 40) mS3_ (by decide) rfl (by omega) (by omega) (fun x613_ x613_e x613_l x613_u => ?_)
        refine n_eq (fun c14_ => ?_) (fun c14_ => ?_)
        · skip
          refine n_rI (L := 40) mS3_ (by decide) rfl (by omega) (by omega) (fun x715_ x715_e x715_l x715_u => ?_)
          have q16_ : x715_.toInt = x46_.toInt := by rw [x715_e, x46_e]
          have L17_ : (2 : Int32).toInt = 2 := rfl
          refine n_eq (fun c18_ => ?_) (fun c18_ => ?_)
          · skip
            have L19_ : (-2147483648 : Int64).toInt = -2147483648 := rfl
            have L20_ : (2147483647 : Int64).toInt = 2147483647 := rfl
            refine n_cP (nM_in  mS3_ ) (fun x821_ qx821_ => ?_)
            refine n_eq (fun c22_ => ?_) (fun c22_ => ?_)
            · skip
              exact n_rW mS3_ FS3_ trivial
            · skip
              unfold gM_value_73
              refine n_rI (L := 40) mS3_ (by decide) rfl (by omega) (by omega) (fun x123_ x123_e x123_l x123_u => ?_)
              have q24_ : x123_.toInt = x46_.toInt := by rw [x123_e, x46_e]
              have j25_ := Int32.toInt_toInt64 (x123_)
              have L26_ : (65 : Int64).toInt = 65 := rfl
              have L27_ : (67 : Int64).toInt = 67 := rfl
              refine n_cP (nM_in  mS3_ ) (fun x228_ qx228_ => ?_)
              refine n_eq (fun c29_ => ?_) (fun c29_ => ?_)
              · skip
                unfold gM_value_106
                refine n_rI (L := 40) mS3_ (by decide) rfl (by omega) (by omega) (fun x130_ x130_e x130_l x130_u => ?_)
                have q31_ : x130_.toInt = x46_.toInt := by rw [x130_e, x46_e]
                have L32_ : (64 : Int32).toInt = 64 := rfl
                refine n_eq (fun c33_ => ?_) (fun c33_ => ?_)
                · skip
                  refine n_wJ (L := 640) mS3_ FS3_ (by first | decide | exact hE _ (by decide) | simp) (by decide) (by omega) (by omega) (fun S34_ mS34_ FS34_ gS34_ hS34_ kS34_ => ?_)
                  exact n_rW mS34_ FS34_ trivial
                · skip
                  refine n_wJ (L := 640) mS3_ FS3_ (by first | decide | exact hE _ (by decide) | simp) (by decide) (by omega) (by omega) (fun S35_ mS35_ FS35_ gS35_ hS35_ kS35_ => ?_)
                  exact n_rW mS35_ FS35_ trivial
              · skip
                have L36_ : (0 : Int64).toInt = 0 := rfl
                have L37_ : (4294967295 : Int64).toInt = 4294967295 := rfl
                refine n_cP (nM_in  mS3_ ) (fun x438_ qx438_ => ?_)
                refine n_eq (fun c39_ => ?_) (fun c39_ => ?_)
                · skip
                  exact n_rW mS3_ FS3_ trivial
                · skip
                  unfold gM_value_106
                  refine n_rI (L := 40) mS3_ (by decide) rfl (by omega) (by omega) (fun x140_ x140_e x140_l x140_u => ?_)
                  have q41_ : x140_.toInt = x46_.toInt := by rw [x140_e, x46_e]
                  have L42_ : (64 : Int32).toInt = 64 := rfl
                  refine n_eq (fun c43_ => ?_) (fun c43_ => ?_)
                  · skip
                    refine n_wJ (L := 640) mS3_ FS3_ (by first | decide | exact hE _ (by decide) | simp) (by decide) (by omega) (by omega) (fun S44_ mS44_ FS44_ gS44_ hS44_ kS44_ => ?_)
                    exact n_rW mS44_ FS44_ trivial
                  · skip
                    refine n_wJ (L := 640) mS3_ FS3_ (by first | decide | exact hE _ (by decide) | simp) (by decide) (by omega) (by omega) (fun S45_ mS45_ FS45_ gS45_ hS45_ kS45_ => ?_)
                    exact n_rW mS45_ FS45_ trivial
          · skip
            unfold gM_value_73
            refine n_rI (L := 40) mS3_ (by decide) rfl (by omega) (by omega) (fun x146_ x146_e x146_l x146_u => ?_)
            have q47_ : x146_.toInt = x46_.toInt := by rw [x146_e, x46_e]
            have j48_ := Int32.toInt_toInt64 (x146_)
            have L49_ : (65 : Int64).toInt = 65 := rfl
            have L50_ : (67 : Int64).toInt = 67 := rfl
            refine n_cP (nM_in  mS3_ ) (fun x251_ qx251_ => ?_)
            refine n_eq (fun c52_ => ?_) (fun c52_ => ?_)
            · skip
              unfold gM_value_106
              refine n_rI (L := 40) mS3_ (by decide) rfl (by omega) (by omega) (fun x153_ x153_e x153_l x153_u => ?_)
              have q54_ : x153_.toInt = x46_.toInt := by rw [x153_e, x46_e]
              have L55_ : (64 : Int32).toInt = 64 := rfl
              refine n_eq (fun c56_ => ?_) (fun c56_ => ?_)
              · skip
                refine n_wJ (L := 640) mS3_ FS3_ (by first | decide | exact hE _ (by decide) | simp) (by decide) (by omega) (by omega) (fun S57_ mS57_ FS57_ gS57_ hS57_ kS57_ => ?_)
                exact n_rW mS57_ FS57_ trivial
              · skip
                refine n_wJ (L := 640) mS3_ FS3_ (by first | decide | exact hE _ (by decide) | simp) (by decide) (by omega) (by omega) (fun S58_ mS58_ FS58_ gS58_ hS58_ kS58_ => ?_)
                exact n_rW mS58_ FS58_ trivial
            · skip
              have L59_ : (0 : Int64).toInt = 0 := rfl
              have L60_ : (4294967295 : Int64).toInt = 4294967295 := rfl
              refine n_cP (nM_in  mS3_ ) (fun x461_ qx461_ => ?_)
              refine n_eq (fun c62_ => ?_) (fun c62_ => ?_)
              · skip
                exact n_rW mS3_ FS3_ trivial
              · skip
                unfold gM_value_106
                refine n_rI (L := 40) mS3_ (by decide) rfl (by omega) (by omega) (fun x163_ x163_e x163_l x163_u => ?_)
                have q64_ : x163_.toInt = x46_.toInt := by rw [x163_e, x46_e]
                have L65_ : (64 : Int32).toInt = 64 := rfl
                refine n_eq (fun c66_ => ?_) (fun c66_ => ?_)
                · skip
                  refine n_wJ (L := 640) mS3_ FS3_ (by first | decide | exact hE _ (by decide) | simp) (by decide) (by omega) (by omega) (fun S67_ mS67_ FS67_ gS67_ hS67_ kS67_ => ?_)
                  exact n_rW mS67_ FS67_ trivial
                · skip
                  refine n_wJ (L := 640) mS3_ FS3_ (by first | decide | exact hE _ (by decide) | simp) (by decide) (by omega) (by omega) (fun S68_ mS68_ FS68_ gS68_ hS68_ kS68_ => ?_)
                  exact n_rW mS68_ FS68_ trivial
        · skip
          exact n_rW mS3_ FS3_ trivial

-- gM_text_52
set_option maxHeartbeats 4000000 in
theorem nM_text_52 {E : List Nat} {S0 : MS} (hE : ∀ k ∈ [18, 19], k ∈ E) : ∀ (n : Nat) (a3 : Int32) (a4 : Int32) (a5 : Int32) (S : MS), MI S → fM E S0 S → 0 ≤ a3.toInt → a3.toInt ≤ 40 → 0 ≤ a4.toInt → a4.toInt ≤ 639 → 0 ≤ a5.toInt → a5.toInt ≤ 40 → (S.1 2).toInt = 0 → 40 - a5.toInt < (n : Int) → nJ (NW E S0 (fun (r : Int32) (S' : MS) => (S'.1 2).toInt = 0)) (gM_text_52 n a3 a4 a5 S) := by
  intro n
  induction n with
  | zero => intro a3 a4 a5 S mS FS p0_ p1_ p2_ p3_ p4_ p5_ p6_ m_; exfalso; omega
  | succ n ih =>
    intro a3 a4 a5 S mS FS p0_ p1_ p2_ p3_ p4_ p5_ p6_ m_
    unfold gM_text_52
    have L1_ : (0 : Int32).toInt = 0 := rfl
    have L2_ : (1 : Int32).toInt = 1 := rfl
    refine n_le (fun c3_ => ?_) (fun c3_ => ?_)
    · skip
      refine n_wI (L := 640) mS FS (by first | decide | exact hE _ (by decide) | simp) (by decide) (by decide) rfl (by omega) (by omega) (by omega) (by omega) (fun S4_ mS4_ FS4_ gS4_ hS4_ kS4_ => ?_)
      have q5_ := congrArg Int32.toInt (congrFun gS4_ 2)
      have r6_ := mi_f mS4_ 2 rfl
      exact n_rW mS4_ FS4_ (by omega)
    · skip
      refine n_rI (L := 1200) mS (by decide) rfl (by omega) (by omega) (fun x27_ x27_e x27_l x27_u => ?_)
      have L8_ : (40 : Int32).toInt = 40 := rfl
      try have i9_ : ((40 : Int32) * a4).toInt = 40 * a4.toInt := i_mul (n := 40) rfl (by omega) (by omega)
      try have i10_ : (((40 : Int32) * a4) + a5).toInt = ((40 : Int32) * a4).toInt + a5.toInt := i_add (by omega) (by omega)
      refine n_wI (L := 25600) mS FS (by first | decide | exact hE _ (by decide) | simp) (by decide) (by decide) rfl (by omega) (by omega) (i_lo _) (i_hi _) (fun S11_ mS11_ FS11_ gS11_ hS11_ kS11_ => ?_)
      have q12_ := congrArg Int32.toInt (congrFun gS11_ 2)
      try have i14_ : (a5 + (1 : Int32)).toInt = a5.toInt + (1 : Int32).toInt := i_add (by omega) (by omega)
      refine n_letv (fun x413_ x413_v => ?_)
      have x413_t := congrArg Int32.toInt x413_v
      have r15_ := mi_f mS11_ 2 rfl
      exact ih a3 a4 x413_ S11_ mS11_ FS11_ (by first | omega | assumption) (by first | omega | assumption) (by first | omega | assumption) (by first | omega | assumption) (by first | omega | assumption) (by first | omega | assumption) (by first | omega | assumption) (by omega)
