-- gM_read
set_option maxHeartbeats 4000000 in
theorem nM_read {a1 : Int32} {S : MS} (mS : MI S)  (p0_ : 0 ≤ a1.toInt) (p1_ : a1.toInt ≤ 1200) : nJ (NW [44, 45, 58] S (fun (r : Int64) (S' : MS) => True)) (gM_read a1 S) := by
  unfold gM_read
  have FS := fM_rf [44, 45, 58] S
  have L1_ : (0 : Int32).toInt = 0 := rfl
  have L2_ : (1 : Int32).toInt = 1 := rfl
  have r3_ := mi_f mS 44 rfl
  refine n_let ?_
  try have i5_ : (a1 - (S.1 44)).toInt = a1.toInt - (S.1 44).toInt := i_sub (by omega) (by omega)
  refine n_letv (fun x24_ x24_v => ?_)
  have x24_t := congrArg Int32.toInt x24_v
  have r6_ := mi_f mS 45 rfl
  refine n_let ?_
  refine n_eq (fun c7_ => ?_) (fun c7_ => ?_)
  · skip
    have j8_ := Int32.toInt_toInt64 (x24_)
    have L9_ : (1 : Int64).toInt = 1 := rfl
    have L10_ : (9 : Int64).toInt = 9 := rfl
    refine n_cP (nM_in  mS ) (fun x411_ qx411_ => ?_)
    refine n_eq (fun c12_ => ?_) (fun c12_ => ?_)
    · skip
      refine n_sI mS FS (by first | decide | exact hE _ (by decide) | simp) rfl (by omega) (by omega) (fun S13_ mS13_ FS13_ vS13_ gS13_ hS13_ => ?_)
      have q14_ := congrArg Int32.toInt (gS13_ 44 (by decide))
      have q15_ := congrArg Int32.toInt vS13_
      unfold gM_read_31
      have r16_ := mi_f mS13_ 45 rfl
      refine n_let ?_
      refine n_eq (fun c17_ => ?_) (fun c17_ => ?_)
      · skip
        have r18_ := mi_f mS13_ 44 rfl
        refine n_let ?_
        refine n_rI (L := 1200) mS13_ (by decide) rfl (by omega) (by omega) (fun x319_ x319_e x319_l x319_u => ?_)
        refine n_let ?_
        have j20_ := Int32.toInt_toInt64 (x319_)
        exact nM_read_57  (by first | decide | (intro k q; exact hE k (by revert q; revert k; decide))) _ _ _ _ _ _ _ mS13_ FS13_ (by first | omega | assumption) (by first | omega | assumption) (by first | omega | assumption) (by first | omega | assumption) (by first | omega | assumption) (by first | omega | assumption) (by first | omega | assumption) (by simp only [sm_fuel_eq]; omega)
      · skip
        exact n_rW mS13_ FS13_ trivial
    · skip
      unfold gM_read_31
      refine n_let ?_
      refine n_eq (fun c21_ => ?_) (fun c21_ => ?_)
      · skip
        refine n_let ?_
        refine n_rI (L := 1200) mS (by decide) rfl (by omega) (by omega) (fun x322_ x322_e x322_l x322_u => ?_)
        refine n_let ?_
        have j23_ := Int32.toInt_toInt64 (x322_)
        exact nM_read_57  (by first | decide | (intro k q; exact hE k (by revert q; revert k; decide))) _ _ _ _ _ _ _ mS FS (by first | omega | assumption) (by first | omega | assumption) (by first | omega | assumption) (by first | omega | assumption) (by first | omega | assumption) (by first | omega | assumption) (by first | omega | assumption) (by simp only [sm_fuel_eq]; omega)
      · skip
        exact n_rW mS FS trivial
  · skip
    unfold gM_read_31
    refine n_let ?_
    refine n_eq (fun c24_ => ?_) (fun c24_ => ?_)
    · skip
      refine n_let ?_
      refine n_rI (L := 1200) mS (by decide) rfl (by omega) (by omega) (fun x325_ x325_e x325_l x325_u => ?_)
      refine n_let ?_
      have j26_ := Int32.toInt_toInt64 (x325_)
      exact nM_read_57  (by first | decide | (intro k q; exact hE k (by revert q; revert k; decide))) _ _ _ _ _ _ _ mS FS (by first | omega | assumption) (by first | omega | assumption) (by first | omega | assumption) (by first | omega | assumption) (by first | omega | assumption) (by first | omega | assumption) (by first | omega | assumption) (by simp only [sm_fuel_eq]; omega)
    · skip
      exact n_rW mS FS trivial

-- gM_integer
set_option maxHeartbeats 4000000 in
theorem nM_integer {a1 : Int32} {S : MS} (mS : MI S)  (p0_ : 0 ≤ a1.toInt) (p1_ : a1.toInt ≤ 1200) : nJ (NW [44, 45, 58] S (fun (r : Int32) (S' : MS) => True)) (gM_integer a1 S) := by
  unfold gM_integer
  have FS := fM_rf [44, 45, 58] S
  have L1_ : (0 : Int32).toInt = 0 := rfl
  have L2_ : (1 : Int32).toInt = 1 := rfl
  have L3_ : (2 : Int32).toInt = 2 := rfl
  refine n_cW FS (nM_field  mS (by first | omega | assumption) (by first | omega | assumption)) (by first | decide | (intro k q; exact hE k (by revert q; revert k; decide))) (fun x14_ S5_ mS5_ FS5_ fS5_ qx14_ => ?_)
  have q6_ := congrArg Int32.toInt (fS5_.1 58 (by decide))
  have r7_ := mi_f mS5_ 44 rfl
  have r8_ := mi_f mS5_ 45 rfl
  refine n_cW FS5_ (nM_read  mS5_ (by first | omega | assumption) (by first | omega | assumption)) (by first | decide | (intro k q; exact hE k (by revert q; revert k; decide))) (fun x39_ S10_ mS10_ FS10_ fS10_ qx39_ => ?_)
  have r11_ := mi_f mS10_ 45 rfl
  refine n_let ?_
  refine n_eq (fun c12_ => ?_) (fun c12_ => ?_)
  · skip
    have r13_ := mi_f mS10_ 58 rfl
    refine n_let ?_
    refine n_eq (fun c14_ => ?_) (fun c14_ => ?_)
    · skip
      have L15_ : (-2147483648 : Int64).toInt = -2147483648 := rfl
      have L16_ : (2147483647 : Int64).toInt = 2147483647 := rfl
      refine n_cP (nM_in  mS10_ ) (fun x817_ qx817_ => ?_)
      refine n_eq (fun c18_ => ?_) (fun c18_ => ?_)
      · skip
        refine n_sI mS10_ FS10_ (by first | decide | exact hE _ (by decide) | simp) rfl (by omega) (by omega) (fun S19_ mS19_ FS19_ vS19_ gS19_ hS19_ => ?_)
        exact n_rW mS19_ FS19_ trivial
      · skip
        exact n_rW mS10_ FS10_ trivial
    · skip
      refine n_sI mS10_ FS10_ (by first | decide | exact hE _ (by decide) | simp) rfl (by omega) (by omega) (fun S20_ mS20_ FS20_ vS20_ gS20_ hS20_ => ?_)
      exact n_rW mS20_ FS20_ trivial
  · skip
    exact n_rW mS10_ FS10_ trivial

-- gM_readName_75
set_option maxHeartbeats 4000000 in
theorem nM_readName_75 {g : Int} {R : Int32 → MS → Prop} {E : List Nat} {S0 : MS} {K23 : Int32 → Nat → Int32 → Int32 → MS → Option (Int32 × MS)} {a1 : Int32} {a2 : Nat} {a3 : Int32} {a4 : Int32} (hE : ∀ k ∈ [44, 45], k ∈ E) (hr_a2 : rowL a2 1 960) (he_a2 : a2 ∈ E) (hK23 : ∀ (k0_ : Int32) (S' : MS), MI S' → fM E S0 S' → 0 ≤ k0_.toInt → k0_.toInt ≤ 16 → 4 * (1200 - (S'.1 44).toInt) + 3 - (S'.1 45).toInt < g → nJ R (K23 a1 a2 a3 k0_ S')) : ∀ (n : Nat) (a5 : Int64) (a7 : Int32) (S : MS), MI S → fM E S0 S → 0 ≤ a1.toInt → a1.toInt ≤ 1200 → 0 ≤ a3.toInt → a3.toInt ≤ 944 → 0 ≤ a4.toInt → a4.toInt ≤ 16 → 0 ≤ a7.toInt → a7.toInt ≤ 255 → 4 * (1200 - (S.1 44).toInt) + 3 - (S.1 45).toInt < g → 4 * (1200 - (S.1 44).toInt) + 3 - (S.1 45).toInt < (n : Int) → nJ R (gM_readName_75 K23 n a1 a2 a3 a4 a5 a7 S) := by
  intro n
  induction n with
  | zero => intro a5 a7 S mS FS p0_ p1_ p2_ p3_ p4_ p5_ p6_ p7_ p8_ m_; exfalso; have z44_ := mi_f mS 44 rfl; have z45_ := mi_f mS 45 rfl; omega
  | succ n ih =>
    intro a5 a7 S mS FS p0_ p1_ p2_ p3_ p4_ p5_ p6_ p7_ p8_ m_
    have r1_ := mi_f mS 44 rfl
    have r2_ := mi_f mS 45 rfl
    unfold gM_readName_75
    have L3_ : (0 : Int32).toInt = 0 := rfl
    have L4_ : (1 : Int32).toInt = 1 := rfl
    refine n_let ?_
    refine n_eq (fun c5_ => ?_) (fun c5_ => ?_)
    · skip
      have L6_ : (128 : Int32).toInt = 128 := rfl
      refine n_lt (fun c7_ => ?_) (fun c7_ => ?_)
      · skip
        unfold gM_readName_135
        refine n_let ?_
        refine n_let ?_
        refine n_eq (fun c8_ => ?_) (fun c8_ => ?_)
        · skip
          have L9_ : (4294967295 : Int64).toInt = 4294967295 := rfl
          refine n_l3 (fun c10_ => ?_) (fun c10_ => ?_)
          · skip
            refine n_sI mS FS (by first | decide | exact hE _ (by decide) | simp) rfl (by omega) (by omega) (fun S11_ mS11_ FS11_ vS11_ gS11_ hS11_ => ?_)
            have q12_ := congrArg Int32.toInt (gS11_ 44 (by decide))
            have q13_ := congrArg Int32.toInt vS11_
            unfold gM_readName_188
            have r14_ := mi_f mS11_ 45 rfl
            refine n_let ?_
            refine n_eq (fun c15_ => ?_) (fun c15_ => ?_)
            · skip
              refine n_eq (fun c16_ => ?_) (fun c16_ => ?_)
              · skip
                rw [if_neg (by first | decide | (intro q; subst q; omega))]
                refine n_wJ mS11_ FS11_ he_a2 hr_a2 (by omega) (by omega) (fun S17_ mS17_ FS17_ gS17_ hS17_ kS17_ => ?_)
                have q18_ := congrArg Int32.toInt (congrFun gS17_ 44)
                have q19_ := congrArg Int32.toInt (congrFun gS17_ 45)
                rw [if_neg (by first | decide | (intro q; subst q; omega))]
                try have i20_ : (a3 + (1 : Int32)).toInt = a3.toInt + (1 : Int32).toInt := i_add (by omega) (by omega)
                refine n_wJ mS17_ FS17_ he_a2 hr_a2 (by omega) (by omega) (fun S21_ mS21_ FS21_ gS21_ hS21_ kS21_ => ?_)
                have q22_ := congrArg Int32.toInt (congrFun gS21_ 44)
                have q23_ := congrArg Int32.toInt (congrFun gS21_ 45)
                have L24_ : (2 : Int32).toInt = 2 := rfl
                have r25_ := mi_f mS21_ 44 rfl
                have r26_ := mi_f mS21_ 45 rfl
                exact hK23 _ _ mS21_ FS21_ (by first | omega | assumption) (by first | omega | assumption) (by first | omega | assumption)
              · skip
                unfold gM_readName_226
                refine n_let ?_
                refine n_eq (fun c27_ => ?_) (fun c27_ => ?_)
                · skip
                  try have i28_ : (a3 + a4).toInt = a3.toInt + a4.toInt := i_add (by omega) (by omega)
                  refine n_wJ mS11_ FS11_ he_a2 hr_a2 (by omega) (by omega) (fun S29_ mS29_ FS29_ gS29_ hS29_ kS29_ => ?_)
                  have q30_ := congrArg Int32.toInt (congrFun gS29_ 44)
                  have q31_ := congrArg Int32.toInt (congrFun gS29_ 45)
                  try have i33_ : (a4 + (1 : Int32)).toInt = a4.toInt + (1 : Int32).toInt := i_add (by omega) (by omega)
                  refine n_letv (fun x332_ x332_v => ?_)
                  have x332_t := congrArg Int32.toInt x332_v
                  have r34_ := mi_f mS29_ 44 rfl
                  have r35_ := mi_f mS29_ 45 rfl
                  exact hK23 _ _ mS29_ FS29_ (by first | omega | assumption) (by first | omega | assumption) (by first | omega | assumption)
                · skip
                  have r36_ := mi_f mS11_ 44 rfl
                  exact hK23 _ _ mS11_ FS11_ (by first | omega | assumption) (by first | omega | assumption) (by first | omega | assumption)
            · skip
              unfold gM_readName_226
              refine n_let ?_
              refine n_eq (fun c37_ => ?_) (fun c37_ => ?_)
              · skip
                try have i38_ : (a3 + a4).toInt = a3.toInt + a4.toInt := i_add (by omega) (by omega)
                refine n_wJ mS11_ FS11_ he_a2 hr_a2 (by omega) (by omega) (fun S39_ mS39_ FS39_ gS39_ hS39_ kS39_ => ?_)
                have q40_ := congrArg Int32.toInt (congrFun gS39_ 44)
                have q41_ := congrArg Int32.toInt (congrFun gS39_ 45)
                try have i43_ : (a4 + (1 : Int32)).toInt = a4.toInt + (1 : Int32).toInt := i_add (by omega) (by omega)
                refine n_letv (fun x342_ x342_v => ?_)
                have x342_t := congrArg Int32.toInt x342_v
                have r44_ := mi_f mS39_ 44 rfl
                have r45_ := mi_f mS39_ 45 rfl
                exact hK23 _ _ mS39_ FS39_ (by first | omega | assumption) (by first | omega | assumption) (by first | omega | assumption)
              · skip
                have r46_ := mi_f mS11_ 44 rfl
                exact hK23 _ _ mS11_ FS11_ (by first | omega | assumption) (by first | omega | assumption) (by first | omega | assumption)
          · skip
            refine n_eq (fun c47_ => ?_) (fun c47_ => ?_)
            · skip
              have L48_ : (119 : Int64).toInt = 119 := rfl
              refine n_l3 (fun c49_ => ?_) (fun c49_ => ?_)
              · skip
                refine n_sI mS FS (by first | decide | exact hE _ (by decide) | simp) rfl (by omega) (by omega) (fun S50_ mS50_ FS50_ vS50_ gS50_ hS50_ => ?_)
                have q51_ := congrArg Int32.toInt (gS50_ 44 (by decide))
                have q52_ := congrArg Int32.toInt vS50_
                unfold gM_readName_188
                have r53_ := mi_f mS50_ 45 rfl
                refine n_let ?_
                refine n_eq (fun c54_ => ?_) (fun c54_ => ?_)
                · skip
                  refine n_eq (fun c55_ => ?_) (fun c55_ => ?_)
                  · skip
                    rw [if_neg (by first | decide | (intro q; subst q; omega))]
                    refine n_wJ mS50_ FS50_ he_a2 hr_a2 (by omega) (by omega) (fun S56_ mS56_ FS56_ gS56_ hS56_ kS56_ => ?_)
                    have q57_ := congrArg Int32.toInt (congrFun gS56_ 44)
                    have q58_ := congrArg Int32.toInt (congrFun gS56_ 45)
                    rw [if_neg (by first | decide | (intro q; subst q; omega))]
                    try have i59_ : (a3 + (1 : Int32)).toInt = a3.toInt + (1 : Int32).toInt := i_add (by omega) (by omega)
                    refine n_wJ mS56_ FS56_ he_a2 hr_a2 (by omega) (by omega) (fun S60_ mS60_ FS60_ gS60_ hS60_ kS60_ => ?_)
                    have q61_ := congrArg Int32.toInt (congrFun gS60_ 44)
                    have q62_ := congrArg Int32.toInt (congrFun gS60_ 45)
                    have L63_ : (2 : Int32).toInt = 2 := rfl
                    have r64_ := mi_f mS60_ 44 rfl
                    have r65_ := mi_f mS60_ 45 rfl
                    exact hK23 _ _ mS60_ FS60_ (by first | omega | assumption) (by first | omega | assumption) (by first | omega | assumption)
                  · skip
                    unfold gM_readName_226
                    refine n_let ?_
                    refine n_eq (fun c66_ => ?_) (fun c66_ => ?_)
                    · skip
                      try have i67_ : (a3 + a4).toInt = a3.toInt + a4.toInt := i_add (by omega) (by omega)
                      refine n_wJ mS50_ FS50_ he_a2 hr_a2 (by omega) (by omega) (fun S68_ mS68_ FS68_ gS68_ hS68_ kS68_ => ?_)
                      have q69_ := congrArg Int32.toInt (congrFun gS68_ 44)
                      have q70_ := congrArg Int32.toInt (congrFun gS68_ 45)
                      try have i72_ : (a4 + (1 : Int32)).toInt = a4.toInt + (1 : Int32).toInt := i_add (by omega) (by omega)
                      refine n_letv (fun x371_ x371_v => ?_)
                      have x371_t := congrArg Int32.toInt x371_v
                      have r73_ := mi_f mS68_ 44 rfl
                      have r74_ := mi_f mS68_ 45 rfl
                      exact hK23 _ _ mS68_ FS68_ (by first | omega | assumption) (by first | omega | assumption) (by first | omega | assumption)
                    · skip
                      have r75_ := mi_f mS50_ 44 rfl
                      exact hK23 _ _ mS50_ FS50_ (by first | omega | assumption) (by first | omega | assumption) (by first | omega | assumption)
                · skip
                  unfold gM_readName_226
                  refine n_let ?_
                  refine n_eq (fun c76_ => ?_) (fun c76_ => ?_)
                  · skip
                    try have i77_ : (a3 + a4).toInt = a3.toInt + a4.toInt := i_add (by omega) (by omega)
                    refine n_wJ mS50_ FS50_ he_a2 hr_a2 (by omega) (by omega) (fun S78_ mS78_ FS78_ gS78_ hS78_ kS78_ => ?_)
                    have q79_ := congrArg Int32.toInt (congrFun gS78_ 44)
                    have q80_ := congrArg Int32.toInt (congrFun gS78_ 45)
                    try have i82_ : (a4 + (1 : Int32)).toInt = a4.toInt + (1 : Int32).toInt := i_add (by omega) (by omega)
                    refine n_letv (fun x381_ x381_v => ?_)
                    have x381_t := congrArg Int32.toInt x381_v
                    have r83_ := mi_f mS78_ 44 rfl
                    have r84_ := mi_f mS78_ 45 rfl
                    exact hK23 _ _ mS78_ FS78_ (by first | omega | assumption) (by first | omega | assumption) (by first | omega | assumption)
                  · skip
                    have r85_ := mi_f mS50_ 44 rfl
                    exact hK23 _ _ mS50_ FS50_ (by first | omega | assumption) (by first | omega | assumption) (by first | omega | assumption)
              · skip
                unfold gM_readName_176
                have L86_ : (16 : Int32).toInt = 16 := rfl
                refine n_eq (fun c87_ => ?_) (fun c87_ => ?_)
                · skip
                  refine n_sI mS FS (by first | decide | exact hE _ (by decide) | simp) rfl (by omega) (by omega) (fun S88_ mS88_ FS88_ vS88_ gS88_ hS88_ => ?_)
                  have q89_ := congrArg Int32.toInt (gS88_ 44 (by decide))
                  have q90_ := congrArg Int32.toInt vS88_
                  unfold gM_readName_188
                  have r91_ := mi_f mS88_ 45 rfl
                  refine n_let ?_
                  refine n_eq (fun c92_ => ?_) (fun c92_ => ?_)
                  · skip
                    refine n_eq (fun c93_ => ?_) (fun c93_ => ?_)
                    · skip
                      rw [if_neg (by first | decide | (intro q; subst q; omega))]
                      refine n_wJ mS88_ FS88_ he_a2 hr_a2 (by omega) (by omega) (fun S94_ mS94_ FS94_ gS94_ hS94_ kS94_ => ?_)
                      have q95_ := congrArg Int32.toInt (congrFun gS94_ 44)
                      have q96_ := congrArg Int32.toInt (congrFun gS94_ 45)
                      rw [if_neg (by first | decide | (intro q; subst q; omega))]
                      try have i97_ : (a3 + (1 : Int32)).toInt = a3.toInt + (1 : Int32).toInt := i_add (by omega) (by omega)
                      refine n_wJ mS94_ FS94_ he_a2 hr_a2 (by omega) (by omega) (fun S98_ mS98_ FS98_ gS98_ hS98_ kS98_ => ?_)
                      have q99_ := congrArg Int32.toInt (congrFun gS98_ 44)
                      have q100_ := congrArg Int32.toInt (congrFun gS98_ 45)
                      have L101_ : (2 : Int32).toInt = 2 := rfl
                      have r102_ := mi_f mS98_ 44 rfl
                      have r103_ := mi_f mS98_ 45 rfl
                      exact hK23 _ _ mS98_ FS98_ (by first | omega | assumption) (by first | omega | assumption) (by first | omega | assumption)
                    · skip
                      unfold gM_readName_226
                      refine n_let ?_
                      refine n_eq (fun c104_ => ?_) (fun c104_ => ?_)
                      · skip
                        try have i105_ : (a3 + a4).toInt = a3.toInt + a4.toInt := i_add (by omega) (by omega)
                        refine n_wJ mS88_ FS88_ he_a2 hr_a2 (by omega) (by omega) (fun S106_ mS106_ FS106_ gS106_ hS106_ kS106_ => ?_)
                        have q107_ := congrArg Int32.toInt (congrFun gS106_ 44)
                        have q108_ := congrArg Int32.toInt (congrFun gS106_ 45)
                        try have i110_ : (a4 + (1 : Int32)).toInt = a4.toInt + (1 : Int32).toInt := i_add (by omega) (by omega)
                        refine n_letv (fun x3109_ x3109_v => ?_)
                        have x3109_t := congrArg Int32.toInt x3109_v
                        have r111_ := mi_f mS106_ 44 rfl
                        have r112_ := mi_f mS106_ 45 rfl
                        exact hK23 _ _ mS106_ FS106_ (by first | omega | assumption) (by first | omega | assumption) (by first | omega | assumption)
                      · skip
                        have r113_ := mi_f mS88_ 44 rfl
                        exact hK23 _ _ mS88_ FS88_ (by first | omega | assumption) (by first | omega | assumption) (by first | omega | assumption)
                  · skip
                    unfold gM_readName_226
                    refine n_let ?_
                    refine n_eq (fun c114_ => ?_) (fun c114_ => ?_)
                    · skip
                      try have i115_ : (a3 + a4).toInt = a3.toInt + a4.toInt := i_add (by omega) (by omega)
                      refine n_wJ mS88_ FS88_ he_a2 hr_a2 (by omega) (by omega) (fun S116_ mS116_ FS116_ gS116_ hS116_ kS116_ => ?_)
                      have q117_ := congrArg Int32.toInt (congrFun gS116_ 44)
                      have q118_ := congrArg Int32.toInt (congrFun gS116_ 45)
                      try have i120_ : (a4 + (1 : Int32)).toInt = a4.toInt + (1 : Int32).toInt := i_add (by omega) (by omega)
                      refine n_letv (fun x3119_ x3119_v => ?_)
                      have x3119_t := congrArg Int32.toInt x3119_v
                      have r121_ := mi_f mS116_ 44 rfl
                      have r122_ := mi_f mS116_ 45 rfl
                      exact hK23 _ _ mS116_ FS116_ (by first | omega | assumption) (by first | omega | assumption) (by first | omega | assumption)
                    · skip
                      have r123_ := mi_f mS88_ 44 rfl
                      exact hK23 _ _ mS88_ FS88_ (by first | omega | assumption) (by first | omega | assumption) (by first | omega | assumption)
                · skip
                  unfold gM_readName_188
                  refine n_let ?_
                  refine n_eq (fun c124_ => ?_) (fun c124_ => ?_)
                  · skip
                    refine n_eq (fun c125_ => ?_) (fun c125_ => ?_)
                    · skip
                      rw [if_neg (by first | decide | (intro q; subst q; omega))]
                      refine n_wJ mS FS he_a2 hr_a2 (by omega) (by omega) (fun S126_ mS126_ FS126_ gS126_ hS126_ kS126_ => ?_)
                      have q127_ := congrArg Int32.toInt (congrFun gS126_ 44)
                      have q128_ := congrArg Int32.toInt (congrFun gS126_ 45)
                      rw [if_neg (by first | decide | (intro q; subst q; omega))]
                      try have i129_ : (a3 + (1 : Int32)).toInt = a3.toInt + (1 : Int32).toInt := i_add (by omega) (by omega)
                      refine n_wJ mS126_ FS126_ he_a2 hr_a2 (by omega) (by omega) (fun S130_ mS130_ FS130_ gS130_ hS130_ kS130_ => ?_)
                      have q131_ := congrArg Int32.toInt (congrFun gS130_ 44)
                      have q132_ := congrArg Int32.toInt (congrFun gS130_ 45)
                      have L133_ : (2 : Int32).toInt = 2 := rfl
                      have r134_ := mi_f mS130_ 44 rfl
                      have r135_ := mi_f mS130_ 45 rfl
                      exact hK23 _ _ mS130_ FS130_ (by first | omega | assumption) (by first | omega | assumption) (by first | omega | assumption)
                    · skip
                      unfold gM_readName_226
                      refine n_let ?_
                      refine n_eq (fun c136_ => ?_) (fun c136_ => ?_)
                      · skip
                        try have i137_ : (a3 + a4).toInt = a3.toInt + a4.toInt := i_add (by omega) (by omega)
                        refine n_wJ mS FS he_a2 hr_a2 (by omega) (by omega) (fun S138_ mS138_ FS138_ gS138_ hS138_ kS138_ => ?_)
                        have q139_ := congrArg Int32.toInt (congrFun gS138_ 44)
                        have q140_ := congrArg Int32.toInt (congrFun gS138_ 45)
                        try have i142_ : (a4 + (1 : Int32)).toInt = a4.toInt + (1 : Int32).toInt := i_add (by omega) (by omega)
                        refine n_letv (fun x3141_ x3141_v => ?_)
                        have x3141_t := congrArg Int32.toInt x3141_v
                        have r143_ := mi_f mS138_ 44 rfl
                        have r144_ := mi_f mS138_ 45 rfl
                        exact hK23 _ _ mS138_ FS138_ (by first | omega | assumption) (by first | omega | assumption) (by first | omega | assumption)
                      · skip
                        exact hK23 _ _ mS FS (by first | omega | assumption) (by first | omega | assumption) (by first | omega | assumption)
                  · skip
                    unfold gM_readName_226
                    refine n_let ?_
                    refine n_eq (fun c145_ => ?_) (fun c145_ => ?_)
                    · skip
                      try have i146_ : (a3 + a4).toInt = a3.toInt + a4.toInt := i_add (by omega) (by omega)
                      refine n_wJ mS FS he_a2 hr_a2 (by omega) (by omega) (fun S147_ mS147_ FS147_ gS147_ hS147_ kS147_ => ?_)
                      have q148_ := congrArg Int32.toInt (congrFun gS147_ 44)
                      have q149_ := congrArg Int32.toInt (congrFun gS147_ 45)
                      try have i151_ : (a4 + (1 : Int32)).toInt = a4.toInt + (1 : Int32).toInt := i_add (by omega) (by omega)
                      refine n_letv (fun x3150_ x3150_v => ?_)
                      have x3150_t := congrArg Int32.toInt x3150_v
                      have r152_ := mi_f mS147_ 44 rfl
                      have r153_ := mi_f mS147_ 45 rfl
                      exact hK23 _ _ mS147_ FS147_ (by first | omega | assumption) (by first | omega | assumption) (by first | omega | assumption)
                    · skip
                      exact hK23 _ _ mS FS (by first | omega | assumption) (by first | omega | assumption) (by first | omega | assumption)
            · skip
              unfold gM_readName_176
              have L154_ : (16 : Int32).toInt = 16 := rfl
              refine n_eq (fun c155_ => ?_) (fun c155_ => ?_)
              · skip
                refine n_sI mS FS (by first | decide | exact hE _ (by decide) | simp) rfl (by omega) (by omega) (fun S156_ mS156_ FS156_ vS156_ gS156_ hS156_ => ?_)
                have q157_ := congrArg Int32.toInt (gS156_ 44 (by decide))
                have q158_ := congrArg Int32.toInt vS156_
                unfold gM_readName_188
                have r159_ := mi_f mS156_ 45 rfl
                refine n_let ?_
                refine n_eq (fun c160_ => ?_) (fun c160_ => ?_)
                · skip
                  refine n_eq (fun c161_ => ?_) (fun c161_ => ?_)
                  · skip
                    rw [if_neg (by first | decide | (intro q; subst q; omega))]
                    refine n_wJ mS156_ FS156_ he_a2 hr_a2 (by omega) (by omega) (fun S162_ mS162_ FS162_ gS162_ hS162_ kS162_ => ?_)
                    have q163_ := congrArg Int32.toInt (congrFun gS162_ 44)
                    have q164_ := congrArg Int32.toInt (congrFun gS162_ 45)
                    rw [if_neg (by first | decide | (intro q; subst q; omega))]
                    try have i165_ : (a3 + (1 : Int32)).toInt = a3.toInt + (1 : Int32).toInt := i_add (by omega) (by omega)
                    refine n_wJ mS162_ FS162_ he_a2 hr_a2 (by omega) (by omega) (fun S166_ mS166_ FS166_ gS166_ hS166_ kS166_ => ?_)
                    have q167_ := congrArg Int32.toInt (congrFun gS166_ 44)
                    have q168_ := congrArg Int32.toInt (congrFun gS166_ 45)
                    have L169_ : (2 : Int32).toInt = 2 := rfl
                    have r170_ := mi_f mS166_ 44 rfl
                    have r171_ := mi_f mS166_ 45 rfl
                    exact hK23 _ _ mS166_ FS166_ (by first | omega | assumption) (by first | omega | assumption) (by first | omega | assumption)
                  · skip
                    unfold gM_readName_226
                    refine n_let ?_
                    refine n_eq (fun c172_ => ?_) (fun c172_ => ?_)
                    · skip
                      try have i173_ : (a3 + a4).toInt = a3.toInt + a4.toInt := i_add (by omega) (by omega)
                      refine n_wJ mS156_ FS156_ he_a2 hr_a2 (by omega) (by omega) (fun S174_ mS174_ FS174_ gS174_ hS174_ kS174_ => ?_)
                      have q175_ := congrArg Int32.toInt (congrFun gS174_ 44)
                      have q176_ := congrArg Int32.toInt (congrFun gS174_ 45)
                      try have i178_ : (a4 + (1 : Int32)).toInt = a4.toInt + (1 : Int32).toInt := i_add (by omega) (by omega)
                      refine n_letv (fun x3177_ x3177_v => ?_)
                      have x3177_t := congrArg Int32.toInt x3177_v
                      have r179_ := mi_f mS174_ 44 rfl
                      have r180_ := mi_f mS174_ 45 rfl
                      exact hK23 _ _ mS174_ FS174_ (by first | omega | assumption) (by first | omega | assumption) (by first | omega | assumption)
                    · skip
                      have r181_ := mi_f mS156_ 44 rfl
                      exact hK23 _ _ mS156_ FS156_ (by first | omega | assumption) (by first | omega | assumption) (by first | omega | assumption)
                · skip
                  unfold gM_readName_226
                  refine n_let ?_
                  refine n_eq (fun c182_ => ?_) (fun c182_ => ?_)
                  · skip
                    try have i183_ : (a3 + a4).toInt = a3.toInt + a4.toInt := i_add (by omega) (by omega)
                    refine n_wJ mS156_ FS156_ he_a2 hr_a2 (by omega) (by omega) (fun S184_ mS184_ FS184_ gS184_ hS184_ kS184_ => ?_)
                    have q185_ := congrArg Int32.toInt (congrFun gS184_ 44)
                    have q186_ := congrArg Int32.toInt (congrFun gS184_ 45)
                    try have i188_ : (a4 + (1 : Int32)).toInt = a4.toInt + (1 : Int32).toInt := i_add (by omega) (by omega)
                    refine n_letv (fun x3187_ x3187_v => ?_)
                    have x3187_t := congrArg Int32.toInt x3187_v
                    have r189_ := mi_f mS184_ 44 rfl
                    have r190_ := mi_f mS184_ 45 rfl
                    exact hK23 _ _ mS184_ FS184_ (by first | omega | assumption) (by first | omega | assumption) (by first | omega | assumption)
                  · skip
                    have r191_ := mi_f mS156_ 44 rfl
                    exact hK23 _ _ mS156_ FS156_ (by first | omega | assumption) (by first | omega | assumption) (by first | omega | assumption)
              · skip
                unfold gM_readName_188
                refine n_let ?_
                refine n_eq (fun c192_ => ?_) (fun c192_ => ?_)
                · skip
                  refine n_eq (fun c193_ => ?_) (fun c193_ => ?_)
                  · skip
                    rw [if_neg (by first | decide | (intro q; subst q; omega))]
                    refine n_wJ mS FS he_a2 hr_a2 (by omega) (by omega) (fun S194_ mS194_ FS194_ gS194_ hS194_ kS194_ => ?_)
                    have q195_ := congrArg Int32.toInt (congrFun gS194_ 44)
                    have q196_ := congrArg Int32.toInt (congrFun gS194_ 45)
                    rw [if_neg (by first | decide | (intro q; subst q; omega))]
                    try have i197_ : (a3 + (1 : Int32)).toInt = a3.toInt + (1 : Int32).toInt := i_add (by omega) (by omega)
                    refine n_wJ mS194_ FS194_ he_a2 hr_a2 (by omega) (by omega) (fun S198_ mS198_ FS198_ gS198_ hS198_ kS198_ => ?_)
                    have q199_ := congrArg Int32.toInt (congrFun gS198_ 44)
                    have q200_ := congrArg Int32.toInt (congrFun gS198_ 45)
                    have L201_ : (2 : Int32).toInt = 2 := rfl
                    have r202_ := mi_f mS198_ 44 rfl
                    have r203_ := mi_f mS198_ 45 rfl
                    exact hK23 _ _ mS198_ FS198_ (by first | omega | assumption) (by first | omega | assumption) (by first | omega | assumption)
                  · skip
                    unfold gM_readName_226
                    refine n_let ?_
                    refine n_eq (fun c204_ => ?_) (fun c204_ => ?_)
                    · skip
                      try have i205_ : (a3 + a4).toInt = a3.toInt + a4.toInt := i_add (by omega) (by omega)
                      refine n_wJ mS FS he_a2 hr_a2 (by omega) (by omega) (fun S206_ mS206_ FS206_ gS206_ hS206_ kS206_ => ?_)
                      have q207_ := congrArg Int32.toInt (congrFun gS206_ 44)
                      have q208_ := congrArg Int32.toInt (congrFun gS206_ 45)
                      try have i210_ : (a4 + (1 : Int32)).toInt = a4.toInt + (1 : Int32).toInt := i_add (by omega) (by omega)
                      refine n_letv (fun x3209_ x3209_v => ?_)
                      have x3209_t := congrArg Int32.toInt x3209_v
                      have r211_ := mi_f mS206_ 44 rfl
                      have r212_ := mi_f mS206_ 45 rfl
                      exact hK23 _ _ mS206_ FS206_ (by first | omega | assumption) (by first | omega | assumption) (by first | omega | assumption)
                    · skip
                      exact hK23 _ _ mS FS (by first | omega | assumption) (by first | omega | assumption) (by first | omega | assumption)
                · skip
                  unfold gM_readName_226
                  refine n_let ?_
                  refine n_eq (fun c213_ => ?_) (fun c213_ => ?_)
                  · skip
                    try have i214_ : (a3 + a4).toInt = a3.toInt + a4.toInt := i_add (by omega) (by omega)
                    refine n_wJ mS FS he_a2 hr_a2 (by omega) (by omega) (fun S215_ mS215_ FS215_ gS215_ hS215_ kS215_ => ?_)
                    have q216_ := congrArg Int32.toInt (congrFun gS215_ 44)
                    have q217_ := congrArg Int32.toInt (congrFun gS215_ 45)
                    try have i219_ : (a4 + (1 : Int32)).toInt = a4.toInt + (1 : Int32).toInt := i_add (by omega) (by omega)
                    refine n_letv (fun x3218_ x3218_v => ?_)
                    have x3218_t := congrArg Int32.toInt x3218_v
                    have r220_ := mi_f mS215_ 44 rfl
                    have r221_ := mi_f mS215_ 45 rfl
                    exact hK23 _ _ mS215_ FS215_ (by first | omega | assumption) (by first | omega | assumption) (by first | omega | assumption)
                  · skip
                    exact hK23 _ _ mS FS (by first | omega | assumption) (by first | omega | assumption) (by first | omega | assumption)
        · skip
          unfold gM_readName_188
          refine n_let ?_
          refine n_eq (fun c222_ => ?_) (fun c222_ => ?_)
          · skip
            refine n_eq (fun c223_ => ?_) (fun c223_ => ?_)
            · skip
              rw [if_neg (by first | decide | (intro q; subst q; omega))]
              refine n_wJ mS FS he_a2 hr_a2 (by omega) (by omega) (fun S224_ mS224_ FS224_ gS224_ hS224_ kS224_ => ?_)
              have q225_ := congrArg Int32.toInt (congrFun gS224_ 44)
              have q226_ := congrArg Int32.toInt (congrFun gS224_ 45)
              rw [if_neg (by first | decide | (intro q; subst q; omega))]
              try have i227_ : (a3 + (1 : Int32)).toInt = a3.toInt + (1 : Int32).toInt := i_add (by omega) (by omega)
              refine n_wJ mS224_ FS224_ he_a2 hr_a2 (by omega) (by omega) (fun S228_ mS228_ FS228_ gS228_ hS228_ kS228_ => ?_)
              have q229_ := congrArg Int32.toInt (congrFun gS228_ 44)
              have q230_ := congrArg Int32.toInt (congrFun gS228_ 45)
              have L231_ : (2 : Int32).toInt = 2 := rfl
              have r232_ := mi_f mS228_ 44 rfl
              have r233_ := mi_f mS228_ 45 rfl
              exact hK23 _ _ mS228_ FS228_ (by first | omega | assumption) (by first | omega | assumption) (by first | omega | assumption)
            · skip
              unfold gM_readName_226
              refine n_let ?_
              refine n_eq (fun c234_ => ?_) (fun c234_ => ?_)
              · skip
                try have i235_ : (a3 + a4).toInt = a3.toInt + a4.toInt := i_add (by omega) (by omega)
                refine n_wJ mS FS he_a2 hr_a2 (by omega) (by omega) (fun S236_ mS236_ FS236_ gS236_ hS236_ kS236_ => ?_)
                have q237_ := congrArg Int32.toInt (congrFun gS236_ 44)
                have q238_ := congrArg Int32.toInt (congrFun gS236_ 45)
                try have i240_ : (a4 + (1 : Int32)).toInt = a4.toInt + (1 : Int32).toInt := i_add (by omega) (by omega)
                refine n_letv (fun x3239_ x3239_v => ?_)
                have x3239_t := congrArg Int32.toInt x3239_v
                have r241_ := mi_f mS236_ 44 rfl
                have r242_ := mi_f mS236_ 45 rfl
                exact hK23 _ _ mS236_ FS236_ (by first | omega | assumption) (by first | omega | assumption) (by first | omega | assumption)
              · skip
                exact hK23 _ _ mS FS (by first | omega | assumption) (by first | omega | assumption) (by first | omega | assumption)
          · skip
            unfold gM_readName_226
            refine n_let ?_
            refine n_eq (fun c243_ => ?_) (fun c243_ => ?_)
            · skip
              try have i244_ : (a3 + a4).toInt = a3.toInt + a4.toInt := i_add (by omega) (by omega)
              refine n_wJ mS FS he_a2 hr_a2 (by omega) (by omega) (fun S245_ mS245_ FS245_ gS245_ hS245_ kS245_ => ?_)
              have q246_ := congrArg Int32.toInt (congrFun gS245_ 44)
              have q247_ := congrArg Int32.toInt (congrFun gS245_ 45)
              try have i249_ : (a4 + (1 : Int32)).toInt = a4.toInt + (1 : Int32).toInt := i_add (by omega) (by omega)
              refine n_letv (fun x3248_ x3248_v => ?_)
              have x3248_t := congrArg Int32.toInt x3248_v
              have r250_ := mi_f mS245_ 44 rfl
              have r251_ := mi_f mS245_ 45 rfl
              exact hK23 _ _ mS245_ FS245_ (by first | omega | assumption) (by first | omega | assumption) (by first | omega | assumption)
            · skip
              exact hK23 _ _ mS FS (by first | omega | assumption) (by first | omega | assumption) (by first | omega | assumption)
      · skip
        refine n_let ?_
        have L252_ : (4294967295 : Int64).toInt = 4294967295 := rfl
        refine n_l2 (fun c253_ => ?_) (fun c253_ => ?_)
        · skip
          refine n_let ?_
          refine n_sI mS FS (by first | decide | exact hE _ (by decide) | simp) rfl (by omega) (by omega) (fun S254_ mS254_ FS254_ vS254_ gS254_ hS254_ => ?_)
          have q255_ := congrArg Int32.toInt (gS254_ 44 (by decide))
          have q256_ := congrArg Int32.toInt vS254_
          refine n_cW FS254_ (nM_octet  mS254_ (by first | omega | assumption) (by first | omega | assumption)) (by first | decide | (intro k q; exact hE k (by revert q; revert k; decide))) (fun x5257_ S258_ mS258_ FS258_ fS258_ qx5257_ => ?_)
          have r259_ := mi_f mS258_ 44 rfl
          have r260_ := mi_f mS258_ 45 rfl
          exact ih (((a5 <<< ((7 : Int32).toInt64 &&& 63)) ||| ((a7 &&& (127 : Int32)).toInt64))) x5257_ S258_ mS258_ FS258_ (by first | omega | assumption) (by first | omega | assumption) (by first | omega | assumption) (by first | omega | assumption) (by first | omega | assumption) (by first | omega | assumption) (by first | omega | assumption) (by first | omega | assumption) (by first | omega | assumption) (by omega)
        · skip
          refine n_sI mS FS (by first | decide | exact hE _ (by decide) | simp) rfl (by omega) (by omega) (fun S261_ mS261_ FS261_ vS261_ gS261_ hS261_ => ?_)
          have q262_ := congrArg Int32.toInt (gS261_ 44 (by decide))
          have q263_ := congrArg Int32.toInt vS261_
          refine n_cW FS261_ (nM_octet  mS261_ (by first | omega | assumption) (by first | omega | assumption)) (by first | decide | (intro k q; exact hE k (by revert q; revert k; decide))) (fun x8264_ S265_ mS265_ FS265_ fS265_ qx8264_ => ?_)
          have r266_ := mi_f mS265_ 44 rfl
          have r267_ := mi_f mS265_ 45 rfl
          exact ih (((a5 <<< ((7 : Int32).toInt64 &&& 63)) ||| ((a7 &&& (127 : Int32)).toInt64))) x8264_ S265_ mS265_ FS265_ (by first | omega | assumption) (by first | omega | assumption) (by first | omega | assumption) (by first | omega | assumption) (by first | omega | assumption) (by first | omega | assumption) (by first | omega | assumption) (by first | omega | assumption) (by first | omega | assumption) (by omega)
    · skip
      unfold gM_readName_135
      refine n_let ?_
      refine n_let ?_
      refine n_eq (fun c268_ => ?_) (fun c268_ => ?_)
      · skip
        have L269_ : (4294967295 : Int64).toInt = 4294967295 := rfl
        refine n_l3 (fun c270_ => ?_) (fun c270_ => ?_)
        · skip
          refine n_sI mS FS (by first | decide | exact hE _ (by decide) | simp) rfl (by omega) (by omega) (fun S271_ mS271_ FS271_ vS271_ gS271_ hS271_ => ?_)
          have q272_ := congrArg Int32.toInt (gS271_ 44 (by decide))
          have q273_ := congrArg Int32.toInt vS271_
          unfold gM_readName_188
          have r274_ := mi_f mS271_ 45 rfl
          refine n_let ?_
          refine n_eq (fun c275_ => ?_) (fun c275_ => ?_)
          · skip
            refine n_eq (fun c276_ => ?_) (fun c276_ => ?_)
            · skip
              rw [if_neg (by first | decide | (intro q; subst q; omega))]
              refine n_wJ mS271_ FS271_ he_a2 hr_a2 (by omega) (by omega) (fun S277_ mS277_ FS277_ gS277_ hS277_ kS277_ => ?_)
              have q278_ := congrArg Int32.toInt (congrFun gS277_ 44)
              have q279_ := congrArg Int32.toInt (congrFun gS277_ 45)
              rw [if_neg (by first | decide | (intro q; subst q; omega))]
              try have i280_ : (a3 + (1 : Int32)).toInt = a3.toInt + (1 : Int32).toInt := i_add (by omega) (by omega)
              refine n_wJ mS277_ FS277_ he_a2 hr_a2 (by omega) (by omega) (fun S281_ mS281_ FS281_ gS281_ hS281_ kS281_ => ?_)
              have q282_ := congrArg Int32.toInt (congrFun gS281_ 44)
              have q283_ := congrArg Int32.toInt (congrFun gS281_ 45)
              have L284_ : (2 : Int32).toInt = 2 := rfl
              have r285_ := mi_f mS281_ 44 rfl
              have r286_ := mi_f mS281_ 45 rfl
              exact hK23 _ _ mS281_ FS281_ (by first | omega | assumption) (by first | omega | assumption) (by first | omega | assumption)
            · skip
              unfold gM_readName_226
              refine n_let ?_
              refine n_eq (fun c287_ => ?_) (fun c287_ => ?_)
              · skip
                try have i288_ : (a3 + a4).toInt = a3.toInt + a4.toInt := i_add (by omega) (by omega)
                refine n_wJ mS271_ FS271_ he_a2 hr_a2 (by omega) (by omega) (fun S289_ mS289_ FS289_ gS289_ hS289_ kS289_ => ?_)
                have q290_ := congrArg Int32.toInt (congrFun gS289_ 44)
                have q291_ := congrArg Int32.toInt (congrFun gS289_ 45)
                try have i293_ : (a4 + (1 : Int32)).toInt = a4.toInt + (1 : Int32).toInt := i_add (by omega) (by omega)
                refine n_letv (fun x3292_ x3292_v => ?_)
                have x3292_t := congrArg Int32.toInt x3292_v
                have r294_ := mi_f mS289_ 44 rfl
                have r295_ := mi_f mS289_ 45 rfl
                exact hK23 _ _ mS289_ FS289_ (by first | omega | assumption) (by first | omega | assumption) (by first | omega | assumption)
              · skip
                have r296_ := mi_f mS271_ 44 rfl
                exact hK23 _ _ mS271_ FS271_ (by first | omega | assumption) (by first | omega | assumption) (by first | omega | assumption)
          · skip
            unfold gM_readName_226
            refine n_let ?_
            refine n_eq (fun c297_ => ?_) (fun c297_ => ?_)
            · skip
              try have i298_ : (a3 + a4).toInt = a3.toInt + a4.toInt := i_add (by omega) (by omega)
              refine n_wJ mS271_ FS271_ he_a2 hr_a2 (by omega) (by omega) (fun S299_ mS299_ FS299_ gS299_ hS299_ kS299_ => ?_)
              have q300_ := congrArg Int32.toInt (congrFun gS299_ 44)
              have q301_ := congrArg Int32.toInt (congrFun gS299_ 45)
              try have i303_ : (a4 + (1 : Int32)).toInt = a4.toInt + (1 : Int32).toInt := i_add (by omega) (by omega)
              refine n_letv (fun x3302_ x3302_v => ?_)
              have x3302_t := congrArg Int32.toInt x3302_v
              have r304_ := mi_f mS299_ 44 rfl
              have r305_ := mi_f mS299_ 45 rfl
              exact hK23 _ _ mS299_ FS299_ (by first | omega | assumption) (by first | omega | assumption) (by first | omega | assumption)
            · skip
              have r306_ := mi_f mS271_ 44 rfl
              exact hK23 _ _ mS271_ FS271_ (by first | omega | assumption) (by first | omega | assumption) (by first | omega | assumption)
        · skip
          refine n_eq (fun c307_ => ?_) (fun c307_ => ?_)
          · skip
            have L308_ : (119 : Int64).toInt = 119 := rfl
            refine n_l3 (fun c309_ => ?_) (fun c309_ => ?_)
            · skip
              refine n_sI mS FS (by first | decide | exact hE _ (by decide) | simp) rfl (by omega) (by omega) (fun S310_ mS310_ FS310_ vS310_ gS310_ hS310_ => ?_)
              have q311_ := congrArg Int32.toInt (gS310_ 44 (by decide))
              have q312_ := congrArg Int32.toInt vS310_
              unfold gM_readName_188
              have r313_ := mi_f mS310_ 45 rfl
              refine n_let ?_
              refine n_eq (fun c314_ => ?_) (fun c314_ => ?_)
              · skip
                refine n_eq (fun c315_ => ?_) (fun c315_ => ?_)
                · skip
                  rw [if_neg (by first | decide | (intro q; subst q; omega))]
                  refine n_wJ mS310_ FS310_ he_a2 hr_a2 (by omega) (by omega) (fun S316_ mS316_ FS316_ gS316_ hS316_ kS316_ => ?_)
                  have q317_ := congrArg Int32.toInt (congrFun gS316_ 44)
                  have q318_ := congrArg Int32.toInt (congrFun gS316_ 45)
                  rw [if_neg (by first | decide | (intro q; subst q; omega))]
                  try have i319_ : (a3 + (1 : Int32)).toInt = a3.toInt + (1 : Int32).toInt := i_add (by omega) (by omega)
                  refine n_wJ mS316_ FS316_ he_a2 hr_a2 (by omega) (by omega) (fun S320_ mS320_ FS320_ gS320_ hS320_ kS320_ => ?_)
                  have q321_ := congrArg Int32.toInt (congrFun gS320_ 44)
                  have q322_ := congrArg Int32.toInt (congrFun gS320_ 45)
                  have L323_ : (2 : Int32).toInt = 2 := rfl
                  have r324_ := mi_f mS320_ 44 rfl
                  have r325_ := mi_f mS320_ 45 rfl
                  exact hK23 _ _ mS320_ FS320_ (by first | omega | assumption) (by first | omega | assumption) (by first | omega | assumption)
                · skip
                  unfold gM_readName_226
                  refine n_let ?_
                  refine n_eq (fun c326_ => ?_) (fun c326_ => ?_)
                  · skip
                    try have i327_ : (a3 + a4).toInt = a3.toInt + a4.toInt := i_add (by omega) (by omega)
                    refine n_wJ mS310_ FS310_ he_a2 hr_a2 (by omega) (by omega) (fun S328_ mS328_ FS328_ gS328_ hS328_ kS328_ => ?_)
                    have q329_ := congrArg Int32.toInt (congrFun gS328_ 44)
                    have q330_ := congrArg Int32.toInt (congrFun gS328_ 45)
                    try have i332_ : (a4 + (1 : Int32)).toInt = a4.toInt + (1 : Int32).toInt := i_add (by omega) (by omega)
                    refine n_letv (fun x3331_ x3331_v => ?_)
                    have x3331_t := congrArg Int32.toInt x3331_v
                    have r333_ := mi_f mS328_ 44 rfl
                    have r334_ := mi_f mS328_ 45 rfl
                    exact hK23 _ _ mS328_ FS328_ (by first | omega | assumption) (by first | omega | assumption) (by first | omega | assumption)
                  · skip
                    have r335_ := mi_f mS310_ 44 rfl
                    exact hK23 _ _ mS310_ FS310_ (by first | omega | assumption) (by first | omega | assumption) (by first | omega | assumption)
              · skip
                unfold gM_readName_226
                refine n_let ?_
                refine n_eq (fun c336_ => ?_) (fun c336_ => ?_)
                · skip
                  try have i337_ : (a3 + a4).toInt = a3.toInt + a4.toInt := i_add (by omega) (by omega)
                  refine n_wJ mS310_ FS310_ he_a2 hr_a2 (by omega) (by omega) (fun S338_ mS338_ FS338_ gS338_ hS338_ kS338_ => ?_)
                  have q339_ := congrArg Int32.toInt (congrFun gS338_ 44)
                  have q340_ := congrArg Int32.toInt (congrFun gS338_ 45)
                  try have i342_ : (a4 + (1 : Int32)).toInt = a4.toInt + (1 : Int32).toInt := i_add (by omega) (by omega)
                  refine n_letv (fun x3341_ x3341_v => ?_)
                  have x3341_t := congrArg Int32.toInt x3341_v
                  have r343_ := mi_f mS338_ 44 rfl
                  have r344_ := mi_f mS338_ 45 rfl
                  exact hK23 _ _ mS338_ FS338_ (by first | omega | assumption) (by first | omega | assumption) (by first | omega | assumption)
                · skip
                  have r345_ := mi_f mS310_ 44 rfl
                  exact hK23 _ _ mS310_ FS310_ (by first | omega | assumption) (by first | omega | assumption) (by first | omega | assumption)
            · skip
              unfold gM_readName_176
              have L346_ : (16 : Int32).toInt = 16 := rfl
              refine n_eq (fun c347_ => ?_) (fun c347_ => ?_)
              · skip
                refine n_sI mS FS (by first | decide | exact hE _ (by decide) | simp) rfl (by omega) (by omega) (fun S348_ mS348_ FS348_ vS348_ gS348_ hS348_ => ?_)
                have q349_ := congrArg Int32.toInt (gS348_ 44 (by decide))
                have q350_ := congrArg Int32.toInt vS348_
                unfold gM_readName_188
                have r351_ := mi_f mS348_ 45 rfl
                refine n_let ?_
                refine n_eq (fun c352_ => ?_) (fun c352_ => ?_)
                · skip
                  refine n_eq (fun c353_ => ?_) (fun c353_ => ?_)
                  · skip
                    rw [if_neg (by first | decide | (intro q; subst q; omega))]
                    refine n_wJ mS348_ FS348_ he_a2 hr_a2 (by omega) (by omega) (fun S354_ mS354_ FS354_ gS354_ hS354_ kS354_ => ?_)
                    have q355_ := congrArg Int32.toInt (congrFun gS354_ 44)
                    have q356_ := congrArg Int32.toInt (congrFun gS354_ 45)
                    rw [if_neg (by first | decide | (intro q; subst q; omega))]
                    try have i357_ : (a3 + (1 : Int32)).toInt = a3.toInt + (1 : Int32).toInt := i_add (by omega) (by omega)
                    refine n_wJ mS354_ FS354_ he_a2 hr_a2 (by omega) (by omega) (fun S358_ mS358_ FS358_ gS358_ hS358_ kS358_ => ?_)
                    have q359_ := congrArg Int32.toInt (congrFun gS358_ 44)
                    have q360_ := congrArg Int32.toInt (congrFun gS358_ 45)
                    have L361_ : (2 : Int32).toInt = 2 := rfl
                    have r362_ := mi_f mS358_ 44 rfl
                    have r363_ := mi_f mS358_ 45 rfl
                    exact hK23 _ _ mS358_ FS358_ (by first | omega | assumption) (by first | omega | assumption) (by first | omega | assumption)
                  · skip
                    unfold gM_readName_226
                    refine n_let ?_
                    refine n_eq (fun c364_ => ?_) (fun c364_ => ?_)
                    · skip
                      try have i365_ : (a3 + a4).toInt = a3.toInt + a4.toInt := i_add (by omega) (by omega)
                      refine n_wJ mS348_ FS348_ he_a2 hr_a2 (by omega) (by omega) (fun S366_ mS366_ FS366_ gS366_ hS366_ kS366_ => ?_)
                      have q367_ := congrArg Int32.toInt (congrFun gS366_ 44)
                      have q368_ := congrArg Int32.toInt (congrFun gS366_ 45)
                      try have i370_ : (a4 + (1 : Int32)).toInt = a4.toInt + (1 : Int32).toInt := i_add (by omega) (by omega)
                      refine n_letv (fun x3369_ x3369_v => ?_)
                      have x3369_t := congrArg Int32.toInt x3369_v
                      have r371_ := mi_f mS366_ 44 rfl
                      have r372_ := mi_f mS366_ 45 rfl
                      exact hK23 _ _ mS366_ FS366_ (by first | omega | assumption) (by first | omega | assumption) (by first | omega | assumption)
                    · skip
                      have r373_ := mi_f mS348_ 44 rfl
                      exact hK23 _ _ mS348_ FS348_ (by first | omega | assumption) (by first | omega | assumption) (by first | omega | assumption)
                · skip
                  unfold gM_readName_226
                  refine n_let ?_
                  refine n_eq (fun c374_ => ?_) (fun c374_ => ?_)
                  · skip
                    try have i375_ : (a3 + a4).toInt = a3.toInt + a4.toInt := i_add (by omega) (by omega)
                    refine n_wJ mS348_ FS348_ he_a2 hr_a2 (by omega) (by omega) (fun S376_ mS376_ FS376_ gS376_ hS376_ kS376_ => ?_)
                    have q377_ := congrArg Int32.toInt (congrFun gS376_ 44)
                    have q378_ := congrArg Int32.toInt (congrFun gS376_ 45)
                    try have i380_ : (a4 + (1 : Int32)).toInt = a4.toInt + (1 : Int32).toInt := i_add (by omega) (by omega)
                    refine n_letv (fun x3379_ x3379_v => ?_)
                    have x3379_t := congrArg Int32.toInt x3379_v
                    have r381_ := mi_f mS376_ 44 rfl
                    have r382_ := mi_f mS376_ 45 rfl
                    exact hK23 _ _ mS376_ FS376_ (by first | omega | assumption) (by first | omega | assumption) (by first | omega | assumption)
                  · skip
                    have r383_ := mi_f mS348_ 44 rfl
                    exact hK23 _ _ mS348_ FS348_ (by first | omega | assumption) (by first | omega | assumption) (by first | omega | assumption)
              · skip
                unfold gM_readName_188
                refine n_let ?_
                refine n_eq (fun c384_ => ?_) (fun c384_ => ?_)
                · skip
                  refine n_eq (fun c385_ => ?_) (fun c385_ => ?_)
                  · skip
                    rw [if_neg (by first | decide | (intro q; subst q; omega))]
                    refine n_wJ mS FS he_a2 hr_a2 (by omega) (by omega) (fun S386_ mS386_ FS386_ gS386_ hS386_ kS386_ => ?_)
                    have q387_ := congrArg Int32.toInt (congrFun gS386_ 44)
                    have q388_ := congrArg Int32.toInt (congrFun gS386_ 45)
                    rw [if_neg (by first | decide | (intro q; subst q; omega))]
                    try have i389_ : (a3 + (1 : Int32)).toInt = a3.toInt + (1 : Int32).toInt := i_add (by omega) (by omega)
                    refine n_wJ mS386_ FS386_ he_a2 hr_a2 (by omega) (by omega) (fun S390_ mS390_ FS390_ gS390_ hS390_ kS390_ => ?_)
                    have q391_ := congrArg Int32.toInt (congrFun gS390_ 44)
                    have q392_ := congrArg Int32.toInt (congrFun gS390_ 45)
                    have L393_ : (2 : Int32).toInt = 2 := rfl
                    have r394_ := mi_f mS390_ 44 rfl
                    have r395_ := mi_f mS390_ 45 rfl
                    exact hK23 _ _ mS390_ FS390_ (by first | omega | assumption) (by first | omega | assumption) (by first | omega | assumption)
                  · skip
                    unfold gM_readName_226
                    refine n_let ?_
                    refine n_eq (fun c396_ => ?_) (fun c396_ => ?_)
                    · skip
                      try have i397_ : (a3 + a4).toInt = a3.toInt + a4.toInt := i_add (by omega) (by omega)
                      refine n_wJ mS FS he_a2 hr_a2 (by omega) (by omega) (fun S398_ mS398_ FS398_ gS398_ hS398_ kS398_ => ?_)
                      have q399_ := congrArg Int32.toInt (congrFun gS398_ 44)
                      have q400_ := congrArg Int32.toInt (congrFun gS398_ 45)
                      try have i402_ : (a4 + (1 : Int32)).toInt = a4.toInt + (1 : Int32).toInt := i_add (by omega) (by omega)
                      refine n_letv (fun x3401_ x3401_v => ?_)
                      have x3401_t := congrArg Int32.toInt x3401_v
                      have r403_ := mi_f mS398_ 44 rfl
                      have r404_ := mi_f mS398_ 45 rfl
                      exact hK23 _ _ mS398_ FS398_ (by first | omega | assumption) (by first | omega | assumption) (by first | omega | assumption)
                    · skip
                      exact hK23 _ _ mS FS (by first | omega | assumption) (by first | omega | assumption) (by first | omega | assumption)
                · skip
                  unfold gM_readName_226
                  refine n_let ?_
                  refine n_eq (fun c405_ => ?_) (fun c405_ => ?_)
                  · skip
                    try have i406_ : (a3 + a4).toInt = a3.toInt + a4.toInt := i_add (by omega) (by omega)
                    refine n_wJ mS FS he_a2 hr_a2 (by omega) (by omega) (fun S407_ mS407_ FS407_ gS407_ hS407_ kS407_ => ?_)
                    have q408_ := congrArg Int32.toInt (congrFun gS407_ 44)
                    have q409_ := congrArg Int32.toInt (congrFun gS407_ 45)
                    try have i411_ : (a4 + (1 : Int32)).toInt = a4.toInt + (1 : Int32).toInt := i_add (by omega) (by omega)
                    refine n_letv (fun x3410_ x3410_v => ?_)
                    have x3410_t := congrArg Int32.toInt x3410_v
                    have r412_ := mi_f mS407_ 44 rfl
                    have r413_ := mi_f mS407_ 45 rfl
                    exact hK23 _ _ mS407_ FS407_ (by first | omega | assumption) (by first | omega | assumption) (by first | omega | assumption)
                  · skip
                    exact hK23 _ _ mS FS (by first | omega | assumption) (by first | omega | assumption) (by first | omega | assumption)
          · skip
            unfold gM_readName_176
            have L414_ : (16 : Int32).toInt = 16 := rfl
            refine n_eq (fun c415_ => ?_) (fun c415_ => ?_)
            · skip
              refine n_sI mS FS (by first | decide | exact hE _ (by decide) | simp) rfl (by omega) (by omega) (fun S416_ mS416_ FS416_ vS416_ gS416_ hS416_ => ?_)
              have q417_ := congrArg Int32.toInt (gS416_ 44 (by decide))
              have q418_ := congrArg Int32.toInt vS416_
              unfold gM_readName_188
              have r419_ := mi_f mS416_ 45 rfl
              refine n_let ?_
              refine n_eq (fun c420_ => ?_) (fun c420_ => ?_)
              · skip
                refine n_eq (fun c421_ => ?_) (fun c421_ => ?_)
                · skip
                  rw [if_neg (by first | decide | (intro q; subst q; omega))]
                  refine n_wJ mS416_ FS416_ he_a2 hr_a2 (by omega) (by omega) (fun S422_ mS422_ FS422_ gS422_ hS422_ kS422_ => ?_)
                  have q423_ := congrArg Int32.toInt (congrFun gS422_ 44)
                  have q424_ := congrArg Int32.toInt (congrFun gS422_ 45)
                  rw [if_neg (by first | decide | (intro q; subst q; omega))]
                  try have i425_ : (a3 + (1 : Int32)).toInt = a3.toInt + (1 : Int32).toInt := i_add (by omega) (by omega)
                  refine n_wJ mS422_ FS422_ he_a2 hr_a2 (by omega) (by omega) (fun S426_ mS426_ FS426_ gS426_ hS426_ kS426_ => ?_)
                  have q427_ := congrArg Int32.toInt (congrFun gS426_ 44)
                  have q428_ := congrArg Int32.toInt (congrFun gS426_ 45)
                  have L429_ : (2 : Int32).toInt = 2 := rfl
                  have r430_ := mi_f mS426_ 44 rfl
                  have r431_ := mi_f mS426_ 45 rfl
                  exact hK23 _ _ mS426_ FS426_ (by first | omega | assumption) (by first | omega | assumption) (by first | omega | assumption)
                · skip
                  unfold gM_readName_226
                  refine n_let ?_
                  refine n_eq (fun c432_ => ?_) (fun c432_ => ?_)
                  · skip
                    try have i433_ : (a3 + a4).toInt = a3.toInt + a4.toInt := i_add (by omega) (by omega)
                    refine n_wJ mS416_ FS416_ he_a2 hr_a2 (by omega) (by omega) (fun S434_ mS434_ FS434_ gS434_ hS434_ kS434_ => ?_)
                    have q435_ := congrArg Int32.toInt (congrFun gS434_ 44)
                    have q436_ := congrArg Int32.toInt (congrFun gS434_ 45)
                    try have i438_ : (a4 + (1 : Int32)).toInt = a4.toInt + (1 : Int32).toInt := i_add (by omega) (by omega)
                    refine n_letv (fun x3437_ x3437_v => ?_)
                    have x3437_t := congrArg Int32.toInt x3437_v
                    have r439_ := mi_f mS434_ 44 rfl
                    have r440_ := mi_f mS434_ 45 rfl
                    exact hK23 _ _ mS434_ FS434_ (by first | omega | assumption) (by first | omega | assumption) (by first | omega | assumption)
                  · skip
                    have r441_ := mi_f mS416_ 44 rfl
                    exact hK23 _ _ mS416_ FS416_ (by first | omega | assumption) (by first | omega | assumption) (by first | omega | assumption)
              · skip
                unfold gM_readName_226
                refine n_let ?_
                refine n_eq (fun c442_ => ?_) (fun c442_ => ?_)
                · skip
                  try have i443_ : (a3 + a4).toInt = a3.toInt + a4.toInt := i_add (by omega) (by omega)
                  refine n_wJ mS416_ FS416_ he_a2 hr_a2 (by omega) (by omega) (fun S444_ mS444_ FS444_ gS444_ hS444_ kS444_ => ?_)
                  have q445_ := congrArg Int32.toInt (congrFun gS444_ 44)
                  have q446_ := congrArg Int32.toInt (congrFun gS444_ 45)
                  try have i448_ : (a4 + (1 : Int32)).toInt = a4.toInt + (1 : Int32).toInt := i_add (by omega) (by omega)
                  refine n_letv (fun x3447_ x3447_v => ?_)
                  have x3447_t := congrArg Int32.toInt x3447_v
                  have r449_ := mi_f mS444_ 44 rfl
                  have r450_ := mi_f mS444_ 45 rfl
                  exact hK23 _ _ mS444_ FS444_ (by first | omega | assumption) (by first | omega | assumption) (by first | omega | assumption)
                · skip
                  have r451_ := mi_f mS416_ 44 rfl
                  exact hK23 _ _ mS416_ FS416_ (by first | omega | assumption) (by first | omega | assumption) (by first | omega | assumption)
            · skip
              unfold gM_readName_188
              refine n_let ?_
              refine n_eq (fun c452_ => ?_) (fun c452_ => ?_)
              · skip
                refine n_eq (fun c453_ => ?_) (fun c453_ => ?_)
                · skip
                  rw [if_neg (by first | decide | (intro q; subst q; omega))]
                  refine n_wJ mS FS he_a2 hr_a2 (by omega) (by omega) (fun S454_ mS454_ FS454_ gS454_ hS454_ kS454_ => ?_)
                  have q455_ := congrArg Int32.toInt (congrFun gS454_ 44)
                  have q456_ := congrArg Int32.toInt (congrFun gS454_ 45)
                  rw [if_neg (by first | decide | (intro q; subst q; omega))]
                  try have i457_ : (a3 + (1 : Int32)).toInt = a3.toInt + (1 : Int32).toInt := i_add (by omega) (by omega)
                  refine n_wJ mS454_ FS454_ he_a2 hr_a2 (by omega) (by omega) (fun S458_ mS458_ FS458_ gS458_ hS458_ kS458_ => ?_)
                  have q459_ := congrArg Int32.toInt (congrFun gS458_ 44)
                  have q460_ := congrArg Int32.toInt (congrFun gS458_ 45)
                  have L461_ : (2 : Int32).toInt = 2 := rfl
                  have r462_ := mi_f mS458_ 44 rfl
                  have r463_ := mi_f mS458_ 45 rfl
                  exact hK23 _ _ mS458_ FS458_ (by first | omega | assumption) (by first | omega | assumption) (by first | omega | assumption)
                · skip
                  unfold gM_readName_226
                  refine n_let ?_
                  refine n_eq (fun c464_ => ?_) (fun c464_ => ?_)
                  · skip
                    try have i465_ : (a3 + a4).toInt = a3.toInt + a4.toInt := i_add (by omega) (by omega)
                    refine n_wJ mS FS he_a2 hr_a2 (by omega) (by omega) (fun S466_ mS466_ FS466_ gS466_ hS466_ kS466_ => ?_)
                    have q467_ := congrArg Int32.toInt (congrFun gS466_ 44)
                    have q468_ := congrArg Int32.toInt (congrFun gS466_ 45)
                    try have i470_ : (a4 + (1 : Int32)).toInt = a4.toInt + (1 : Int32).toInt := i_add (by omega) (by omega)
                    refine n_letv (fun x3469_ x3469_v => ?_)
                    have x3469_t := congrArg Int32.toInt x3469_v
                    have r471_ := mi_f mS466_ 44 rfl
                    have r472_ := mi_f mS466_ 45 rfl
                    exact hK23 _ _ mS466_ FS466_ (by first | omega | assumption) (by first | omega | assumption) (by first | omega | assumption)
                  · skip
                    exact hK23 _ _ mS FS (by first | omega | assumption) (by first | omega | assumption) (by first | omega | assumption)
              · skip
                unfold gM_readName_226
                refine n_let ?_
                refine n_eq (fun c473_ => ?_) (fun c473_ => ?_)
                · skip
                  try have i474_ : (a3 + a4).toInt = a3.toInt + a4.toInt := i_add (by omega) (by omega)
                  refine n_wJ mS FS he_a2 hr_a2 (by omega) (by omega) (fun S475_ mS475_ FS475_ gS475_ hS475_ kS475_ => ?_)
                  have q476_ := congrArg Int32.toInt (congrFun gS475_ 44)
                  have q477_ := congrArg Int32.toInt (congrFun gS475_ 45)
                  try have i479_ : (a4 + (1 : Int32)).toInt = a4.toInt + (1 : Int32).toInt := i_add (by omega) (by omega)
                  refine n_letv (fun x3478_ x3478_v => ?_)
                  have x3478_t := congrArg Int32.toInt x3478_v
                  have r480_ := mi_f mS475_ 44 rfl
                  have r481_ := mi_f mS475_ 45 rfl
                  exact hK23 _ _ mS475_ FS475_ (by first | omega | assumption) (by first | omega | assumption) (by first | omega | assumption)
                · skip
                  exact hK23 _ _ mS FS (by first | omega | assumption) (by first | omega | assumption) (by first | omega | assumption)
      · skip
        unfold gM_readName_188
        refine n_let ?_
        refine n_eq (fun c482_ => ?_) (fun c482_ => ?_)
        · skip
          refine n_eq (fun c483_ => ?_) (fun c483_ => ?_)
          · skip
            rw [if_neg (by first | decide | (intro q; subst q; omega))]
            refine n_wJ mS FS he_a2 hr_a2 (by omega) (by omega) (fun S484_ mS484_ FS484_ gS484_ hS484_ kS484_ => ?_)
            have q485_ := congrArg Int32.toInt (congrFun gS484_ 44)
            have q486_ := congrArg Int32.toInt (congrFun gS484_ 45)
            rw [if_neg (by first | decide | (intro q; subst q; omega))]
            try have i487_ : (a3 + (1 : Int32)).toInt = a3.toInt + (1 : Int32).toInt := i_add (by omega) (by omega)
            refine n_wJ mS484_ FS484_ he_a2 hr_a2 (by omega) (by omega) (fun S488_ mS488_ FS488_ gS488_ hS488_ kS488_ => ?_)
            have q489_ := congrArg Int32.toInt (congrFun gS488_ 44)
            have q490_ := congrArg Int32.toInt (congrFun gS488_ 45)
            have L491_ : (2 : Int32).toInt = 2 := rfl
            have r492_ := mi_f mS488_ 44 rfl
            have r493_ := mi_f mS488_ 45 rfl
            exact hK23 _ _ mS488_ FS488_ (by first | omega | assumption) (by first | omega | assumption) (by first | omega | assumption)
          · skip
            unfold gM_readName_226
            refine n_let ?_
            refine n_eq (fun c494_ => ?_) (fun c494_ => ?_)
            · skip
              try have i495_ : (a3 + a4).toInt = a3.toInt + a4.toInt := i_add (by omega) (by omega)
              refine n_wJ mS FS he_a2 hr_a2 (by omega) (by omega) (fun S496_ mS496_ FS496_ gS496_ hS496_ kS496_ => ?_)
              have q497_ := congrArg Int32.toInt (congrFun gS496_ 44)
              have q498_ := congrArg Int32.toInt (congrFun gS496_ 45)
              try have i500_ : (a4 + (1 : Int32)).toInt = a4.toInt + (1 : Int32).toInt := i_add (by omega) (by omega)
              refine n_letv (fun x3499_ x3499_v => ?_)
              have x3499_t := congrArg Int32.toInt x3499_v
              have r501_ := mi_f mS496_ 44 rfl
              have r502_ := mi_f mS496_ 45 rfl
              exact hK23 _ _ mS496_ FS496_ (by first | omega | assumption) (by first | omega | assumption) (by first | omega | assumption)
            · skip
              exact hK23 _ _ mS FS (by first | omega | assumption) (by first | omega | assumption) (by first | omega | assumption)
        · skip
          unfold gM_readName_226
          refine n_let ?_
          refine n_eq (fun c503_ => ?_) (fun c503_ => ?_)
          · skip
            try have i504_ : (a3 + a4).toInt = a3.toInt + a4.toInt := i_add (by omega) (by omega)
            refine n_wJ mS FS he_a2 hr_a2 (by omega) (by omega) (fun S505_ mS505_ FS505_ gS505_ hS505_ kS505_ => ?_)
            have q506_ := congrArg Int32.toInt (congrFun gS505_ 44)
            have q507_ := congrArg Int32.toInt (congrFun gS505_ 45)
            try have i509_ : (a4 + (1 : Int32)).toInt = a4.toInt + (1 : Int32).toInt := i_add (by omega) (by omega)
            refine n_letv (fun x3508_ x3508_v => ?_)
            have x3508_t := congrArg Int32.toInt x3508_v
            have r510_ := mi_f mS505_ 44 rfl
            have r511_ := mi_f mS505_ 45 rfl
            exact hK23 _ _ mS505_ FS505_ (by first | omega | assumption) (by first | omega | assumption) (by first | omega | assumption)
          · skip
            exact hK23 _ _ mS FS (by first | omega | assumption) (by first | omega | assumption) (by first | omega | assumption)
