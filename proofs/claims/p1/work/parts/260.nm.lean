-- gM_tell_49
set_option maxHeartbeats 4000000 in
theorem nM_tell_49 {E : List Nat} {S0 : MS} (hE : ∀ k ∈ [40, 42, 43], k ∈ E) : ∀ (n : Nat) (a1 : Int32) (a4 : Int32) (a5 : Int32) (S : MS), MI S → fM E S0 S → 0 ≤ a1.toInt → a1.toInt ≤ 59 → 0 ≤ a4.toInt → a4.toInt ≤ 639 → 0 ≤ a5.toInt → a5.toInt ≤ 40 → 40 - a5.toInt < (n : Int) → nJ (NW E S0 (fun (r : Unit) (S' : MS) => True)) (gM_tell_49 n a1 a4 a5 S) := by
  intro n
  induction n with
  | zero => intro a1 a4 a5 S mS FS p0_ p1_ p2_ p3_ p4_ p5_ m_; exfalso; omega
  | succ n ih =>
    intro a1 a4 a5 S mS FS p0_ p1_ p2_ p3_ p4_ p5_ m_
    unfold gM_tell_49
    have L1_ : (0 : Int32).toInt = 0 := rfl
    have L2_ : (1 : Int32).toInt = 1 := rfl
    refine n_rI (L := 640) mS (by decide) rfl (by omega) (by omega) (fun x13_ x13_e x13_l x13_u => ?_)
    refine n_le (fun c4_ => ?_) (fun c4_ => ?_)
    · skip
      refine n_rI (L := 640) mS (by decide) rfl (by omega) (by omega) (fun x25_ x25_e x25_l x25_u => ?_)
      refine n_wI (L := 60) mS FS (by first | decide | exact hE _ (by decide) | simp) (by decide) (by decide) rfl (by omega) (by omega) (by omega) (by omega) (fun S6_ mS6_ FS6_ gS6_ hS6_ kS6_ => ?_)
      exact nM_tell_108  (by first | decide | (intro k q; exact hE k (by revert q; revert k; decide))) _ _ _ _ _ mS6_ FS6_ (by first | omega | assumption) (by first | omega | assumption) (by first | omega | assumption) (by first | omega | assumption) (by first | omega | assumption) (by first | omega | assumption) (by simp only [sm_fuel_eq]; omega)
    · skip
      have L7_ : (40 : Int32).toInt = 40 := rfl
      try have i8_ : ((40 : Int32) * a4).toInt = 40 * a4.toInt := i_mul (n := 40) rfl (by omega) (by omega)
      try have i9_ : (((40 : Int32) * a4) + a5).toInt = ((40 : Int32) * a4).toInt + a5.toInt := i_add (by omega) (by omega)
      refine n_rI (L := 25600) mS (by decide) rfl (by omega) (by omega) (fun x410_ x410_e x410_l x410_u => ?_)
      try have i11_ : ((40 : Int32) * a1).toInt = 40 * a1.toInt := i_mul (n := 40) rfl (by omega) (by omega)
      try have i12_ : (((40 : Int32) * a1) + a5).toInt = ((40 : Int32) * a1).toInt + a5.toInt := i_add (by omega) (by omega)
      refine n_wI (L := 2400) mS FS (by first | decide | exact hE _ (by decide) | simp) (by decide) (by decide) rfl (by omega) (by omega) (i_lo _) (i_hi _) (fun S13_ mS13_ FS13_ gS13_ hS13_ kS13_ => ?_)
      try have i15_ : (a5 + (1 : Int32)).toInt = a5.toInt + (1 : Int32).toInt := i_add (by omega) (by omega)
      refine n_letv (fun x614_ x614_v => ?_)
      have x614_t := congrArg Int32.toInt x614_v
      exact ih a1 a4 x614_ S13_ mS13_ FS13_ (by first | omega | assumption) (by first | omega | assumption) (by first | omega | assumption) (by first | omega | assumption) (by first | omega | assumption) (by first | omega | assumption) (by omega)

-- gM_tell
set_option maxHeartbeats 4000000 in
theorem nM_tell {a1 : Int32} {a2 : Int32} {a3 : Int32} {S : MS} (mS : MI S)  (p0_ : 0 ≤ a1.toInt) (p1_ : a1.toInt ≤ 59) (p2_ : 0 ≤ a2.toInt) (p3_ : a2.toInt ≤ 39) (p4_ : 0 ≤ a3.toInt) (p5_ : a3.toInt ≤ 15) : nJ (NW [38, 39, 40, 41, 42, 43] S (fun (r : Unit) (S' : MS) => True)) (gM_tell a1 a2 a3 S) := by
  unfold gM_tell
  have FS := fM_rf [38, 39, 40, 41, 42, 43] S
  have L1_ : (0 : Int32).toInt = 0 := rfl
  have L2_ : (1 : Int32).toInt = 1 := rfl
  have L4_ : (16 : Int32).toInt = 16 := rfl
  try have i5_ : ((16 : Int32) * a2).toInt = 16 * a2.toInt := i_mul (n := 16) rfl (by omega) (by omega)
  try have i6_ : (((16 : Int32) * a2) + a3).toInt = ((16 : Int32) * a2).toInt + a3.toInt := i_add (by omega) (by omega)
  refine n_letv (fun x13_ x13_v => ?_)
  have x13_t := congrArg Int32.toInt x13_v
  refine n_rI (L := 40) mS (by decide) rfl (by omega) (by omega) (fun x27_ x27_e x27_l x27_u => ?_)
  refine n_wI (L := 60) mS FS (by first | decide | exact hE _ (by decide) | simp) (by decide) (by decide) rfl (by omega) (by omega) (i_lo _) (i_hi _) (fun S8_ mS8_ FS8_ gS8_ hS8_ kS8_ => ?_)
  refine n_cP (nM_numberOf  mS8_ (by first | omega | assumption) (by first | omega | assumption) (by first | omega | assumption) (by first | omega | assumption)) (fun x49_ qx49_ => ?_)
  refine n_wJ (L := 60) mS8_ FS8_ (by first | decide | exact hE _ (by decide) | simp) (by decide) (by omega) (by omega) (fun S10_ mS10_ FS10_ gS10_ hS10_ kS10_ => ?_)
  refine n_rI (L := 640) mS10_ (by decide) rfl (by omega) (by omega) (fun x711_ x711_e x711_l x711_u => ?_)
  refine n_wI (L := 60) mS10_ FS10_ (by first | decide | exact hE _ (by decide) | simp) (by decide) (by decide) rfl (by omega) (by omega) (by omega) (by omega) (fun S12_ mS12_ FS12_ gS12_ hS12_ kS12_ => ?_)
  exact nM_tell_49  (by first | decide | (intro k q; exact hE k (by revert q; revert k; decide))) _ _ _ _ _ mS12_ FS12_ (by first | omega | assumption) (by first | omega | assumption) (by first | omega | assumption) (by first | omega | assumption) (by first | omega | assumption) (by first | omega | assumption) (by simp only [sm_fuel_eq]; omega)

-- gM_get
set_option maxHeartbeats 4000000 in
theorem nM_get {a1 : Int32} {a2 : Int32} {S : MS} (mS : MI S)  (p0_ : 0 ≤ a1.toInt) (p1_ : a1.toInt ≤ 59) (p2_ : 0 ≤ a2.toInt) (p3_ : a2.toInt ≤ 59) (p4_ : 0 ≤ (S.1 49).toInt) : nJ (NW [36, 37, 38, 39, 40, 41, 42, 43] S (fun (r : Unit) (S' : MS) => True)) (gM_get a1 a2 S) := by
  unfold gM_get
  have FS := fM_rf [36, 37, 38, 39, 40, 41, 42, 43] S
  have L1_ : (0 : Int32).toInt = 0 := rfl
  have L2_ : (1 : Int32).toInt = 1 := rfl
  refine n_cW FS (nM_copyName  mS (by first | omega | assumption) (by first | omega | assumption) (by first | omega | assumption) (by first | omega | assumption)) (by first | decide | (intro k q; exact hE k (by revert q; revert k; decide))) (fun v3_ S4_ mS4_ FS4_ fS4_ qv3_ => ?_)
  have q5_ := congrArg Int32.toInt (fS4_.1 49 (by decide))
  refine n_rI (L := 60) mS4_ (by decide) rfl (by omega) (by omega) (fun x36_ x36_e x36_l x36_u => ?_)
  have L7_ : (16 : Int32).toInt = 16 := rfl
  try have i8_ : ((16 : Int32) * a1).toInt = 16 * a1.toInt := i_mul (n := 16) rfl (by omega) (by omega)
  refine n_cP (nM_objectOf (L_a1 := 960) mS4_ (by decide) (by first | omega | assumption) (by first | omega | assumption) (by first | omega | assumption) (by first | omega | assumption) (by first | omega | assumption)) (fun x49_ qx49_ => ?_)
  refine n_rI (L := 60) mS4_ (by decide) rfl (by omega) (by omega) (fun x610_ x610_e x610_l x610_u => ?_)
  have q11_ : x610_.toInt = x36_.toInt := by rw [x610_e, x36_e]
  have r12_ := mi_f mS4_ 49 rfl
  refine n_cP (nM_inView (L_a1 := 960) mS4_ (by decide) (by first | omega | assumption) (by first | omega | assumption) (by first | omega | assumption) (by first | omega | assumption) (by first | omega | assumption) (by first | omega | assumption)) (fun x713_ qx713_ => ?_)
  refine n_lt (fun c14_ => ?_) (fun c14_ => ?_)
  · skip
    unfold gM_get_155
    refine n_lt (fun c15_ => ?_) (fun c15_ => ?_)
    · skip
      have L16_ : (128 : Int32).toInt = 128 := rfl
      refine n_wI (L := 60) mS4_ FS4_ (by first | decide | exact hE _ (by decide) | simp) (by decide) (by decide) rfl (by omega) (by omega) (i_lo _) (i_hi _) (fun S17_ mS17_ FS17_ gS17_ hS17_ kS17_ => ?_)
      exact n_rW mS17_ FS17_ trivial
    · skip
      refine n_eq (fun c18_ => ?_) (fun c18_ => ?_)
      · skip
        have L19_ : (128 : Int32).toInt = 128 := rfl
        refine n_wI (L := 60) mS4_ FS4_ (by first | decide | exact hE _ (by decide) | simp) (by decide) (by decide) rfl (by omega) (by omega) (i_lo _) (i_hi _) (fun S20_ mS20_ FS20_ gS20_ hS20_ kS20_ => ?_)
        exact n_rW mS20_ FS20_ trivial
      · skip
        have L21_ : (129 : Int32).toInt = 129 := rfl
        refine n_wI (L := 60) mS4_ FS4_ (by first | decide | exact hE _ (by decide) | simp) (by decide) (by decide) rfl (by omega) (by omega) (i_lo _) (i_hi _) (fun S22_ mS22_ FS22_ gS22_ hS22_ kS22_ => ?_)
        exact n_rW mS22_ FS22_ trivial
  · skip
    refine n_eq (fun c23_ => ?_) (fun c23_ => ?_)
    · skip
      unfold gM_get_155
      refine n_lt (fun c24_ => ?_) (fun c24_ => ?_)
      · skip
        have L25_ : (128 : Int32).toInt = 128 := rfl
        refine n_wI (L := 60) mS4_ FS4_ (by first | decide | exact hE _ (by decide) | simp) (by decide) (by decide) rfl (by omega) (by omega) (i_lo _) (i_hi _) (fun S26_ mS26_ FS26_ gS26_ hS26_ kS26_ => ?_)
        exact n_rW mS26_ FS26_ trivial
      · skip
        refine n_eq (fun c27_ => ?_) (fun c27_ => ?_)
        · skip
          have L28_ : (128 : Int32).toInt = 128 := rfl
          refine n_wI (L := 60) mS4_ FS4_ (by first | decide | exact hE _ (by decide) | simp) (by decide) (by decide) rfl (by omega) (by omega) (i_lo _) (i_hi _) (fun S29_ mS29_ FS29_ gS29_ hS29_ kS29_ => ?_)
          exact n_rW mS29_ FS29_ trivial
        · skip
          have L30_ : (129 : Int32).toInt = 129 := rfl
          refine n_wI (L := 60) mS4_ FS4_ (by first | decide | exact hE _ (by decide) | simp) (by decide) (by decide) rfl (by omega) (by omega) (i_lo _) (i_hi _) (fun S31_ mS31_ FS31_ gS31_ hS31_ kS31_ => ?_)
          exact n_rW mS31_ FS31_ trivial
    · skip
      refine n_rI (L := 60) mS4_ (by decide) rfl (by omega) (by omega) (fun x932_ x932_e x932_l x932_u => ?_)
      have q33_ : x932_.toInt = x36_.toInt := by rw [x932_e, x36_e]
      refine n_rI (L := 40) mS4_ (by decide) rfl (by omega) (by omega) (fun x1034_ x1034_e x1034_l x1034_u => ?_)
      try have i35_ : (x1034_ + (1 : Int32)).toInt = x1034_.toInt + (1 : Int32).toInt := i_add (by omega) (by omega)
      refine n_eq (fun c36_ => ?_) (fun c36_ => ?_)
      · skip
        refine n_rI (L := 40) mS4_ (by decide) rfl (by omega) (by omega) (fun x1137_ x1137_e x1137_l x1137_u => ?_)
        have q38_ : x1137_.toInt = x1034_.toInt := by rw [x1137_e, x1034_e]
        try have i39_ : (((16 : Int32) * a1) + x1137_).toInt = ((16 : Int32) * a1).toInt + x1137_.toInt := i_add (by omega) (by omega)
        refine n_rJ (L := 960) (by decide) (by omega) (by omega) (fun x1240_ x1240_e => ?_)
        refine n_rI (L := 40) mS4_ (by decide) rfl (by omega) (by omega) (fun x1341_ x1341_e x1341_l x1341_u => ?_)
        refine n_le (fun c42_ => ?_) (fun c42_ => ?_)
        · skip
          have L43_ : (2147483647 : Int64).toInt = 2147483647 := rfl
          refine n_l2 (fun c44_ => ?_) (fun c44_ => ?_)
          · skip
            refine n_rI (L := 40) mS4_ (by decide) rfl (by omega) (by omega) (fun x1445_ x1445_e x1445_l x1445_u => ?_)
            have q46_ : x1445_.toInt = x1341_.toInt := by rw [x1445_e, x1341_e]
            refine n_cP (nM_placeOf  mS4_ (by first | omega | assumption) (by first | omega | assumption)) (fun x1547_ qx1547_ => ?_)
            have x1547_z := plc_b qx1547_
            unfold gM_get_139
            refine n_lt (fun c48_ => ?_) (fun c48_ => ?_)
            · skip
              unfold gM_get_155
              refine n_lt (fun c49_ => ?_) (fun c49_ => ?_)
              · skip
                have L50_ : (128 : Int32).toInt = 128 := rfl
                refine n_wI (L := 60) mS4_ FS4_ (by first | decide | exact hE _ (by decide) | simp) (by decide) (by decide) rfl (by omega) (by omega) (i_lo _) (i_hi _) (fun S51_ mS51_ FS51_ gS51_ hS51_ kS51_ => ?_)
                exact n_rW mS51_ FS51_ trivial
              · skip
                refine n_eq (fun c52_ => ?_) (fun c52_ => ?_)
                · skip
                  have L53_ : (128 : Int32).toInt = 128 := rfl
                  refine n_wI (L := 60) mS4_ FS4_ (by first | decide | exact hE _ (by decide) | simp) (by decide) (by decide) rfl (by omega) (by omega) (i_lo _) (i_hi _) (fun S54_ mS54_ FS54_ gS54_ hS54_ kS54_ => ?_)
                  exact n_rW mS54_ FS54_ trivial
                · skip
                  have L55_ : (129 : Int32).toInt = 129 := rfl
                  refine n_wI (L := 60) mS4_ FS4_ (by first | decide | exact hE _ (by decide) | simp) (by decide) (by decide) rfl (by omega) (by omega) (i_lo _) (i_hi _) (fun S56_ mS56_ FS56_ gS56_ hS56_ kS56_ => ?_)
                  exact n_rW mS56_ FS56_ trivial
            · skip
              refine n_cW FS4_ (nM_tell  mS4_ (by first | omega | assumption) (by first | omega | assumption) (by first | omega | assumption) (by first | omega | assumption) (by first | omega | assumption) (by first | omega | assumption)) (by first | decide | (intro k q; exact hE k (by revert q; revert k; decide))) (fun v57_ S58_ mS58_ FS58_ fS58_ qv57_ => ?_)
              exact n_rW mS58_ FS58_ trivial
          · skip
            have L59_ : (-1 : Int32).toInt = -1 := rfl
            unfold gM_get_139
            rw [if_pos (by decide)]
            unfold gM_get_155
            refine n_lt (fun c60_ => ?_) (fun c60_ => ?_)
            · skip
              have L61_ : (128 : Int32).toInt = 128 := rfl
              refine n_wI (L := 60) mS4_ FS4_ (by first | decide | exact hE _ (by decide) | simp) (by decide) (by decide) rfl (by omega) (by omega) (i_lo _) (i_hi _) (fun S62_ mS62_ FS62_ gS62_ hS62_ kS62_ => ?_)
              exact n_rW mS62_ FS62_ trivial
            · skip
              refine n_eq (fun c63_ => ?_) (fun c63_ => ?_)
              · skip
                have L64_ : (128 : Int32).toInt = 128 := rfl
                refine n_wI (L := 60) mS4_ FS4_ (by first | decide | exact hE _ (by decide) | simp) (by decide) (by decide) rfl (by omega) (by omega) (i_lo _) (i_hi _) (fun S65_ mS65_ FS65_ gS65_ hS65_ kS65_ => ?_)
                exact n_rW mS65_ FS65_ trivial
              · skip
                have L66_ : (129 : Int32).toInt = 129 := rfl
                refine n_wI (L := 60) mS4_ FS4_ (by first | decide | exact hE _ (by decide) | simp) (by decide) (by decide) rfl (by omega) (by omega) (i_lo _) (i_hi _) (fun S67_ mS67_ FS67_ gS67_ hS67_ kS67_ => ?_)
                exact n_rW mS67_ FS67_ trivial
        · skip
          have L68_ : (0 : Int64).toInt = 0 := rfl
          refine n_l0 (fun c69_ => ?_) (fun c69_ => ?_)
          · skip
            unfold gM_get_139
            rw [if_neg (by decide)]
            refine n_cW FS4_ (nM_tell  mS4_ (by first | omega | assumption) (by first | omega | assumption) (by first | omega | assumption) (by first | omega | assumption) (by first | omega | assumption) (by first | omega | assumption)) (by first | decide | (intro k q; exact hE k (by revert q; revert k; decide))) (fun v70_ S71_ mS71_ FS71_ fS71_ qv70_ => ?_)
            exact n_rW mS71_ FS71_ trivial
          · skip
            have L72_ : (-1 : Int32).toInt = -1 := rfl
            unfold gM_get_139
            rw [if_pos (by decide)]
            unfold gM_get_155
            refine n_lt (fun c73_ => ?_) (fun c73_ => ?_)
            · skip
              have L74_ : (128 : Int32).toInt = 128 := rfl
              refine n_wI (L := 60) mS4_ FS4_ (by first | decide | exact hE _ (by decide) | simp) (by decide) (by decide) rfl (by omega) (by omega) (i_lo _) (i_hi _) (fun S75_ mS75_ FS75_ gS75_ hS75_ kS75_ => ?_)
              exact n_rW mS75_ FS75_ trivial
            · skip
              refine n_eq (fun c76_ => ?_) (fun c76_ => ?_)
              · skip
                have L77_ : (128 : Int32).toInt = 128 := rfl
                refine n_wI (L := 60) mS4_ FS4_ (by first | decide | exact hE _ (by decide) | simp) (by decide) (by decide) rfl (by omega) (by omega) (i_lo _) (i_hi _) (fun S78_ mS78_ FS78_ gS78_ hS78_ kS78_ => ?_)
                exact n_rW mS78_ FS78_ trivial
              · skip
                have L79_ : (129 : Int32).toInt = 129 := rfl
                refine n_wI (L := 60) mS4_ FS4_ (by first | decide | exact hE _ (by decide) | simp) (by decide) (by decide) rfl (by omega) (by omega) (i_lo _) (i_hi _) (fun S80_ mS80_ FS80_ gS80_ hS80_ kS80_ => ?_)
                exact n_rW mS80_ FS80_ trivial
      · skip
        unfold gM_get_155
        refine n_lt (fun c81_ => ?_) (fun c81_ => ?_)
        · skip
          have L82_ : (128 : Int32).toInt = 128 := rfl
          refine n_wI (L := 60) mS4_ FS4_ (by first | decide | exact hE _ (by decide) | simp) (by decide) (by decide) rfl (by omega) (by omega) (i_lo _) (i_hi _) (fun S83_ mS83_ FS83_ gS83_ hS83_ kS83_ => ?_)
          exact n_rW mS83_ FS83_ trivial
        · skip
          refine n_eq (fun c84_ => ?_) (fun c84_ => ?_)
          · skip
            have L85_ : (128 : Int32).toInt = 128 := rfl
            refine n_wI (L := 60) mS4_ FS4_ (by first | decide | exact hE _ (by decide) | simp) (by decide) (by decide) rfl (by omega) (by omega) (i_lo _) (i_hi _) (fun S86_ mS86_ FS86_ gS86_ hS86_ kS86_ => ?_)
            exact n_rW mS86_ FS86_ trivial
          · skip
            have L87_ : (129 : Int32).toInt = 129 := rfl
            refine n_wI (L := 60) mS4_ FS4_ (by first | decide | exact hE _ (by decide) | simp) (by decide) (by decide) rfl (by omega) (by omega) (i_lo _) (i_hi _) (fun S88_ mS88_ FS88_ gS88_ hS88_ kS88_ => ?_)
            exact n_rW mS88_ FS88_ trivial
