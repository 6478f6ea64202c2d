-- gM_rowsOctets
set_option maxHeartbeats 4000000 in
theorem nM_rowsOctets {a1 : Int32} {a2 : Int32} {S : MS} (mS : MI S)  (p0_ : 0 ≤ a1.toInt) (p1_ : a1.toInt ≤ 60) (p2_ : 0 ≤ a2.toInt) (p3_ : a2.toInt ≤ 60) (p4_ : a1.toInt + a2.toInt ≤ 60) : nJ (NP S (fun r : Int32 => True)) (gM_rowsOctets a1 a2 S) := by
  unfold gM_rowsOctets
  have L1_ : (0 : Int32).toInt = 0 := rfl
  have L2_ : (1 : Int32).toInt = 1 := rfl
  exact n_PP (nM_rowsOctets_5  _ _ _ _ _ _ mS (by first | omega | assumption) (by first | omega | assumption) (by first | omega | assumption) (by first | omega | assumption) (by first | omega | assumption) (by first | omega | assumption) (by first | omega | assumption) (by simp only [sm_fuel_eq]; omega)) (fun _ q => by first | exact q | trivial | omega)

-- gM_bodyOctets
set_option maxHeartbeats 4000000 in
theorem nM_bodyOctets {a1 : Int32} {a2 : Int32} {S : MS} (mS : MI S)  (p0_ : 0 ≤ a1.toInt) (p1_ : a1.toInt ≤ 60) (p2_ : 0 ≤ a2.toInt) (p3_ : a2.toInt ≤ 60) (p4_ : a1.toInt + a2.toInt ≤ 60) : nJ (NP S (fun r : Int32 => True)) (gM_bodyOctets a1 a2 S) := by
  unfold gM_bodyOctets
  have L1_ : (0 : Int32).toInt = 0 := rfl
  have L2_ : (1 : Int32).toInt = 1 := rfl
  refine n_let ?_
  have j3_ := Int32.toInt_toInt64 ((S.1 53))
  refine n_cP (nM_numberSize  mS (by first | omega | assumption)) (fun x24_ qx24_ => ?_)
  refine n_cP (nM_around  mS ) (fun x45_ qx45_ => ?_)
  refine n_let ?_
  have j6_ := Int32.toInt_toInt64 ((S.1 56))
  refine n_cP (nM_numberSize  mS (by first | omega | assumption)) (fun x77_ qx77_ => ?_)
  refine n_cP (nM_around  mS ) (fun x98_ qx98_ => ?_)
  refine n_let ?_
  have j9_ := Int32.toInt_toInt64 ((S.1 57))
  refine n_cP (nM_numberSize  mS (by first | omega | assumption)) (fun x1210_ qx1210_ => ?_)
  refine n_cP (nM_around  mS ) (fun x1411_ qx1411_ => ?_)
  refine n_cP (nM_rowsOctets  mS (by first | omega | assumption) (by first | omega | assumption) (by first | omega | assumption) (by first | omega | assumption) (by first | omega | assumption)) (fun x1612_ qx1612_ => ?_)
  refine n_cP (nM_around  mS ) (fun x1813_ qx1813_ => ?_)
  exact n_rP trivial

-- gM_allOctets
set_option maxHeartbeats 4000000 in
theorem nM_allOctets {a1 : Int32} {a2 : Int32} {S : MS} (mS : MI S)  (p0_ : 0 ≤ a1.toInt) (p1_ : a1.toInt ≤ 60) (p2_ : 0 ≤ a2.toInt) (p3_ : a2.toInt ≤ 60) (p4_ : a1.toInt + a2.toInt ≤ 60) : nJ (NP S (fun r : Int32 => True)) (gM_allOctets a1 a2 S) := by
  unfold gM_allOctets
  have L1_ : (0 : Int32).toInt = 0 := rfl
  have L2_ : (1 : Int32).toInt = 1 := rfl
  have r3_ := mi_f mS 51 rfl
  refine n_let ?_
  refine n_cP (nM_around  mS ) (fun x24_ qx24_ => ?_)
  refine n_cP (nM_bodyOctets  mS (by first | omega | assumption) (by first | omega | assumption) (by first | omega | assumption) (by first | omega | assumption) (by first | omega | assumption)) (fun x45_ qx45_ => ?_)
  refine n_cP (nM_around  mS ) (fun x66_ qx66_ => ?_)
  have L7_ : (3 : Int32).toInt = 3 := rfl
  try have i8_ : ((3 : Int32) + x24_).toInt = (3 : Int32).toInt + x24_.toInt := i_add (by omega) (by omega)
  try have i9_ : (((3 : Int32) + x24_) + x66_).toInt = ((3 : Int32) + x24_).toInt + x66_.toInt := i_add (by omega) (by omega)
  refine n_cP (nM_around  mS ) (fun x810_ qx810_ => ?_)
  exact n_rP trivial

-- gM_oneMore
set_option maxHeartbeats 4000000 in
theorem nM_oneMore {a1 : Int32} {S : MS} (mS : MI S)  (p0_ : 0 ≤ a1.toInt) (p1_ : a1.toInt ≤ 59) (p2_ : 0 ≤ (S.1 49).toInt) : nJ (NW [36, 37, 38, 39, 40, 41, 42, 43, 47, 59, 60, 61, 62] S (fun (r : Int32) (S' : MS) => (r.toInt = 0 ∧ (S'.1 47).toInt = (S.1 47).toInt) ∨ (r.toInt = 1 ∧ (S'.1 47).toInt = (S.1 47).toInt + 1))) (gM_oneMore a1 S) := by
  unfold gM_oneMore
  have FS := fM_rf [36, 37, 38, 39, 40, 41, 42, 43, 47, 59, 60, 61, 62] S
  have L1_ : (0 : Int32).toInt = 0 := rfl
  have L2_ : (1 : Int32).toInt = 1 := rfl
  have r3_ := mi_f mS 47 rfl
  refine n_let ?_
  have L4_ : (40 : Int32).toInt = 40 := rfl
  refine n_eq (fun c5_ => ?_) (fun c5_ => ?_)
  · skip
    exact n_rW mS FS (by omega)
  · skip
    refine n_let ?_
    have L6_ : (20 : Int32).toInt = 20 := rfl
    try have i7_ : ((20 : Int32) + (S.1 47)).toInt = (20 : Int32).toInt + (S.1 47).toInt := i_add (by omega) (by omega)
    have r8_ := mi_f mS 49 rfl
    refine n_cW FS (nM_next  mS (by first | omega | assumption) (by first | omega | assumption) (by first | omega | assumption) (by first | omega | assumption) (by first | omega | assumption)) (by first | decide | (intro k q; exact hE k (by revert q; revert k; decide))) (fun v9_ S10_ mS10_ FS10_ fS10_ qv9_ => ?_)
    have q11_ := congrArg Int32.toInt (fS10_.1 5 (by decide))
    have q12_ := congrArg Int32.toInt (fS10_.1 47 (by decide))
    have r13_ := mi_f mS10_ 47 rfl
    refine n_let ?_
    try have i14_ : ((S10_.1 47) + (1 : Int32)).toInt = (S10_.1 47).toInt + (1 : Int32).toInt := i_add (by omega) (by omega)
    refine n_cP (nM_allOctets  mS10_ (by first | omega | assumption) (by first | omega | assumption) (by first | omega | assumption) (by first | omega | assumption) (by first | omega | assumption)) (fun x615_ qx615_ => ?_)
    have r16_ := mi_f mS10_ 5 rfl
    refine n_let ?_
    refine n_le (fun c17_ => ?_) (fun c17_ => ?_)
    · skip
      refine n_let ?_
      refine n_sI mS10_ FS10_ (by first | decide | exact hE _ (by decide) | simp) rfl (by omega) (by omega) (fun S18_ mS18_ FS18_ vS18_ gS18_ hS18_ => ?_)
      have q19_ := congrArg Int32.toInt vS18_
      have r20_ := mi_f mS18_ 47 rfl
      exact n_rW mS18_ FS18_ (by omega)
    · skip
      exact n_rW mS10_ FS10_ (by omega)

-- gM_many_103
set_option maxHeartbeats 4000000 in
theorem nM_many_103 {g : Int} {R : Unit → MS → Prop} {E : List Nat} {S0 : MS} {K72 : Int32 → Int32 → Int32 → Int32 → MS → Option (Unit × MS)} {a1 : Int32} {a2 : Int32} {a4 : Int32} {a6 : Int32} (hE : ∀ k ∈ [36, 37, 38, 39, 40, 41, 42, 43, 47, 59, 60, 61, 62], k ∈ E)  (hK72 : ∀ (k0_ : Int32) (k1_ : Int32) (S' : MS), MI S' → fM E S0 S' → k0_.toInt = 0 ∨ k0_.toInt = 1 → k1_.toInt = a4.toInt + 1 → (k0_.toInt = 0 ∧ g ≤ (S'.1 47).toInt) ∨ (k0_.toInt = 1 ∧ (S'.1 47).toInt = g + a2.toInt) → 0 ≤ (S'.1 49).toInt → nJ R (K72 a1 a2 k0_ k1_ S')) : ∀ (n : Nat) (a3 : Int32) (a5 : Int32) (a7 : Int32) (S : MS), MI S → fM E S0 S → 0 ≤ a1.toInt → a1.toInt ≤ 20 → 0 ≤ a2.toInt → a2.toInt ≤ 20 → a1.toInt + a2.toInt ≤ 20 → a3.toInt = 0 ∨ a3.toInt = 1 → 0 ≤ a4.toInt → a4.toInt ≤ 2147483646 → a5.toInt = 0 ∨ a5.toInt = 1 → a4.toInt = 0 ∨ (0 ≤ a6.toInt ∧ a6.toInt + a2.toInt ≤ 40) → 0 ≤ a7.toInt → a7.toInt ≤ a2.toInt → (a3.toInt = 0 ∧ g ≤ (S.1 47).toInt) ∨ (a3.toInt = 1 ∧ (S.1 47).toInt = g + a7.toInt) → 0 ≤ (S.1 49).toInt → 20 - a7.toInt < (n : Int) → nJ R (gM_many_103 K72 n a1 a2 a3 a4 a5 a6 a7 S) := by
  intro n
  induction n with
  | zero => intro a3 a5 a7 S mS FS p0_ p1_ p2_ p3_ p4_ p5_ p6_ p7_ p8_ p9_ p10_ p11_ p12_ p13_ m_; exfalso; omega
  | succ n ih =>
    intro a3 a5 a7 S mS FS p0_ p1_ p2_ p3_ p4_ p5_ p6_ p7_ p8_ p9_ p10_ p11_ p12_ p13_ m_
    unfold gM_many_103
    have L1_ : (0 : Int32).toInt = 0 := rfl
    have L2_ : (1 : Int32).toInt = 1 := rfl
    refine n_le (fun c3_ => ?_) (fun c3_ => ?_)
    · skip
      unfold gM_many_184
      refine n_eq (fun c4_ => ?_) (fun c4_ => ?_)
      · skip
        try have i6_ : (a4 + (1 : Int32)).toInt = a4.toInt + (1 : Int32).toInt := i_add (by omega) (by omega)
        refine n_letv (fun x15_ x15_v => ?_)
        have x15_t := congrArg Int32.toInt x15_v
        have r7_ := mi_f mS 47 rfl
        have r8_ := mi_f mS 49 rfl
        exact hK72 _ _ _ mS FS (by first | omega | assumption) (by first | omega | assumption) (by first | omega | assumption) (by first | omega | assumption)
      · skip
        refine n_eq (fun c9_ => ?_) (fun c9_ => ?_)
        · skip
          try have i11_ : (a4 + (1 : Int32)).toInt = a4.toInt + (1 : Int32).toInt := i_add (by omega) (by omega)
          refine n_letv (fun x310_ x310_v => ?_)
          have x310_t := congrArg Int32.toInt x310_v
          have r12_ := mi_f mS 47 rfl
          have r13_ := mi_f mS 49 rfl
          exact hK72 _ _ _ mS FS (by first | omega | assumption) (by first | omega | assumption) (by first | omega | assumption) (by first | omega | assumption)
        · skip
          try have i15_ : (a4 + (1 : Int32)).toInt = a4.toInt + (1 : Int32).toInt := i_add (by omega) (by omega)
          refine n_letv (fun x214_ x214_v => ?_)
          have x214_t := congrArg Int32.toInt x214_v
          have r16_ := mi_f mS 47 rfl
          have r17_ := mi_f mS 49 rfl
          exact hK72 _ _ _ mS FS (by first | omega | assumption) (by first | omega | assumption) (by first | omega | assumption) (by first | omega | assumption)
    · skip
      refine n_eq (fun c18_ => ?_) (fun c18_ => ?_)
      · skip
        unfold gM_many_184
        refine n_eq (fun c19_ => ?_) (fun c19_ => ?_)
        · skip
          try have i21_ : (a4 + (1 : Int32)).toInt = a4.toInt + (1 : Int32).toInt := i_add (by omega) (by omega)
          refine n_letv (fun x120_ x120_v => ?_)
          have x120_t := congrArg Int32.toInt x120_v
          have r22_ := mi_f mS 47 rfl
          have r23_ := mi_f mS 49 rfl
          exact hK72 _ _ _ mS FS (by first | omega | assumption) (by first | omega | assumption) (by first | omega | assumption) (by first | omega | assumption)
        · skip
          refine n_eq (fun c24_ => ?_) (fun c24_ => ?_)
          · skip
            try have i26_ : (a4 + (1 : Int32)).toInt = a4.toInt + (1 : Int32).toInt := i_add (by omega) (by omega)
            refine n_letv (fun x325_ x325_v => ?_)
            have x325_t := congrArg Int32.toInt x325_v
            have r27_ := mi_f mS 47 rfl
            have r28_ := mi_f mS 49 rfl
            exact hK72 _ _ _ mS FS (by first | omega | assumption) (by first | omega | assumption) (by first | omega | assumption) (by first | omega | assumption)
          · skip
            try have i30_ : (a4 + (1 : Int32)).toInt = a4.toInt + (1 : Int32).toInt := i_add (by omega) (by omega)
            refine n_letv (fun x229_ x229_v => ?_)
            have x229_t := congrArg Int32.toInt x229_v
            have r31_ := mi_f mS 47 rfl
            have r32_ := mi_f mS 49 rfl
            exact hK72 _ _ _ mS FS (by first | omega | assumption) (by first | omega | assumption) (by first | omega | assumption) (by first | omega | assumption)
      · skip
        refine n_eq (fun c33_ => ?_) (fun c33_ => ?_)
        · skip
          try have i34_ : (a1 + a7).toInt = a1.toInt + a7.toInt := i_add (by omega) (by omega)
          unfold gM_many_133
          have r35_ := mi_f mS 49 rfl
          refine n_cW FS (nM_oneMore  mS (by first | omega | assumption) (by first | omega | assumption) (by first | omega | assumption)) (by first | decide | (intro k q; exact hE k (by revert q; revert k; decide))) (fun x136_ S37_ mS37_ FS37_ fS37_ qx136_ => ?_)
          have q38_ := congrArg Int32.toInt (fS37_.1 49 (by decide))
          have r39_ := mi_f mS37_ 47 rfl
          refine n_eq (fun c40_ => ?_) (fun c40_ => ?_)
          · skip
            try have i42_ : (a7 + (1 : Int32)).toInt = a7.toInt + (1 : Int32).toInt := i_add (by omega) (by omega)
            refine n_letv (fun x341_ x341_v => ?_)
            have x341_t := congrArg Int32.toInt x341_v
            have r43_ := mi_f mS37_ 49 rfl
            exact ih x136_ (0 : Int32) x341_ S37_ mS37_ FS37_ (by first | omega | assumption) (by first | omega | assumption) (by first | omega | assumption) (by first | omega | assumption) (by first | omega | assumption) (by first | omega | assumption) (by first | omega | assumption) (by first | omega | assumption) (by first | omega | assumption) (by first | omega | assumption) (by first | omega | assumption) (by first | omega | assumption) (by first | omega | assumption) (by first | omega | assumption) (by omega)
          · skip
            refine n_eq (fun c44_ => ?_) (fun c44_ => ?_)
            · skip
              try have i46_ : (a7 + (1 : Int32)).toInt = a7.toInt + (1 : Int32).toInt := i_add (by omega) (by omega)
              refine n_letv (fun x445_ x445_v => ?_)
              have x445_t := congrArg Int32.toInt x445_v
              have r47_ := mi_f mS37_ 49 rfl
              exact ih x136_ (0 : Int32) x445_ S37_ mS37_ FS37_ (by first | omega | assumption) (by first | omega | assumption) (by first | omega | assumption) (by first | omega | assumption) (by first | omega | assumption) (by first | omega | assumption) (by first | omega | assumption) (by first | omega | assumption) (by first | omega | assumption) (by first | omega | assumption) (by first | omega | assumption) (by first | omega | assumption) (by first | omega | assumption) (by first | omega | assumption) (by omega)
            · skip
              refine n_let ?_
              have L48_ : (20 : Int32).toInt = 20 := rfl
              try have i49_ : ((20 : Int32) + (S37_.1 47)).toInt = (20 : Int32).toInt + (S37_.1 47).toInt := i_add (by omega) (by omega)
              try have i50_ : (((20 : Int32) + (S37_.1 47)) - (1 : Int32)).toInt = ((20 : Int32) + (S37_.1 47)).toInt - (1 : Int32).toInt := i_sub (by omega) (by omega)
              refine n_rI (L := 60) mS37_ (by decide) rfl (by omega) (by omega) (fun x651_ x651_e x651_l x651_u => ?_)
              have L52_ : (130 : Int32).toInt = 130 := rfl
              refine n_eq (fun c53_ => ?_) (fun c53_ => ?_)
              · skip
                try have i55_ : (a7 + (1 : Int32)).toInt = a7.toInt + (1 : Int32).toInt := i_add (by omega) (by omega)
                refine n_letv (fun x854_ x854_v => ?_)
                have x854_t := congrArg Int32.toInt x854_v
                have r56_ := mi_f mS37_ 49 rfl
                exact ih x136_ (1 : Int32) x854_ S37_ mS37_ FS37_ (by first | omega | assumption) (by first | omega | assumption) (by first | omega | assumption) (by first | omega | assumption) (by first | omega | assumption) (by first | omega | assumption) (by first | omega | assumption) (by first | omega | assumption) (by first | omega | assumption) (by first | omega | assumption) (by first | omega | assumption) (by first | omega | assumption) (by first | omega | assumption) (by first | omega | assumption) (by omega)
              · skip
                try have i58_ : (a7 + (1 : Int32)).toInt = a7.toInt + (1 : Int32).toInt := i_add (by omega) (by omega)
                refine n_letv (fun x757_ x757_v => ?_)
                have x757_t := congrArg Int32.toInt x757_v
                have r59_ := mi_f mS37_ 49 rfl
                exact ih x136_ (0 : Int32) x757_ S37_ mS37_ FS37_ (by first | omega | assumption) (by first | omega | assumption) (by first | omega | assumption) (by first | omega | assumption) (by first | omega | assumption) (by first | omega | assumption) (by first | omega | assumption) (by first | omega | assumption) (by first | omega | assumption) (by first | omega | assumption) (by first | omega | assumption) (by first | omega | assumption) (by first | omega | assumption) (by first | omega | assumption) (by omega)
        · skip
          have L60_ : (20 : Int32).toInt = 20 := rfl
          try have i61_ : ((20 : Int32) + a6).toInt = (20 : Int32).toInt + a6.toInt := i_add (by omega) (by omega)
          try have i62_ : (((20 : Int32) + a6) + a7).toInt = ((20 : Int32) + a6).toInt + a7.toInt := i_add (by omega) (by omega)
          unfold gM_many_133
          have r63_ := mi_f mS 49 rfl
          refine n_cW FS (nM_oneMore  mS (by first | omega | assumption) (by first | omega | assumption) (by first | omega | assumption)) (by first | decide | (intro k q; exact hE k (by revert q; revert k; decide))) (fun x164_ S65_ mS65_ FS65_ fS65_ qx164_ => ?_)
          have q66_ := congrArg Int32.toInt (fS65_.1 49 (by decide))
          have r67_ := mi_f mS65_ 47 rfl
          refine n_eq (fun c68_ => ?_) (fun c68_ => ?_)
          · skip
            try have i70_ : (a7 + (1 : Int32)).toInt = a7.toInt + (1 : Int32).toInt := i_add (by omega) (by omega)
            refine n_letv (fun x369_ x369_v => ?_)
            have x369_t := congrArg Int32.toInt x369_v
            have r71_ := mi_f mS65_ 49 rfl
            exact ih x164_ (0 : Int32) x369_ S65_ mS65_ FS65_ (by first | omega | assumption) (by first | omega | assumption) (by first | omega | assumption) (by first | omega | assumption) (by first | omega | assumption) (by first | omega | assumption) (by first | omega | assumption) (by first | omega | assumption) (by first | omega | assumption) (by first | omega | assumption) (by first | omega | assumption) (by first | omega | assumption) (by first | omega | assumption) (by first | omega | assumption) (by omega)
          · skip
            refine n_eq (fun c72_ => ?_) (fun c72_ => ?_)
            · skip
              try have i74_ : (a7 + (1 : Int32)).toInt = a7.toInt + (1 : Int32).toInt := i_add (by omega) (by omega)
              refine n_letv (fun x473_ x473_v => ?_)
              have x473_t := congrArg Int32.toInt x473_v
              have r75_ := mi_f mS65_ 49 rfl
              exact ih x164_ (0 : Int32) x473_ S65_ mS65_ FS65_ (by first | omega | assumption) (by first | omega | assumption) (by first | omega | assumption) (by first | omega | assumption) (by first | omega | assumption) (by first | omega | assumption) (by first | omega | assumption) (by first | omega | assumption) (by first | omega | assumption) (by first | omega | assumption) (by first | omega | assumption) (by first | omega | assumption) (by first | omega | assumption) (by first | omega | assumption) (by omega)
            · skip
              refine n_let ?_
              try have i76_ : ((20 : Int32) + (S65_.1 47)).toInt = (20 : Int32).toInt + (S65_.1 47).toInt := i_add (by omega) (by omega)
              try have i77_ : (((20 : Int32) + (S65_.1 47)) - (1 : Int32)).toInt = ((20 : Int32) + (S65_.1 47)).toInt - (1 : Int32).toInt := i_sub (by omega) (by omega)
              refine n_rI (L := 60) mS65_ (by decide) rfl (by omega) (by omega) (fun x678_ x678_e x678_l x678_u => ?_)
              have L79_ : (130 : Int32).toInt = 130 := rfl
              refine n_eq (fun c80_ => ?_) (fun c80_ => ?_)
              · skip
                try have i82_ : (a7 + (1 : Int32)).toInt = a7.toInt + (1 : Int32).toInt := i_add (by omega) (by omega)
                refine n_letv (fun x881_ x881_v => ?_)
                have x881_t := congrArg Int32.toInt x881_v
                have r83_ := mi_f mS65_ 49 rfl
                exact ih x164_ (1 : Int32) x881_ S65_ mS65_ FS65_ (by first | omega | assumption) (by first | omega | assumption) (by first | omega | assumption) (by first | omega | assumption) (by first | omega | assumption) (by first | omega | assumption) (by first | omega | assumption) (by first | omega | assumption) (by first | omega | assumption) (by first | omega | assumption) (by first | omega | assumption) (by first | omega | assumption) (by first | omega | assumption) (by first | omega | assumption) (by omega)
              · skip
                try have i85_ : (a7 + (1 : Int32)).toInt = a7.toInt + (1 : Int32).toInt := i_add (by omega) (by omega)
                refine n_letv (fun x784_ x784_v => ?_)
                have x784_t := congrArg Int32.toInt x784_v
                have r86_ := mi_f mS65_ 49 rfl
                exact ih x164_ (0 : Int32) x784_ S65_ mS65_ FS65_ (by first | omega | assumption) (by first | omega | assumption) (by first | omega | assumption) (by first | omega | assumption) (by first | omega | assumption) (by first | omega | assumption) (by first | omega | assumption) (by first | omega | assumption) (by first | omega | assumption) (by first | omega | assumption) (by first | omega | assumption) (by first | omega | assumption) (by first | omega | assumption) (by first | omega | assumption) (by omega)
