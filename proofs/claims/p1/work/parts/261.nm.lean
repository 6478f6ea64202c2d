-- gM_next_228
set_option maxHeartbeats 4000000 in
theorem nM_next_228 {E : List Nat} {S0 : MS} (hE : ∀ k ∈ [36, 37, 38, 39, 40, 41, 42, 43], k ∈ E) : ∀ (n : Nat) (a2 : Int32) (a3 : Int32) (a4 : Int32) (a5 : Nat) (a6 : Int32) (S : MS), MI S → fM E S0 S → rowL a5 1 17 → 0 ≤ a2.toInt → a2.toInt ≤ 59 → 0 ≤ a3.toInt → a3.toInt ≤ 39 → 0 ≤ a4.toInt → a4.toInt ≤ 15 → 0 ≤ a6.toInt → a6.toInt ≤ 16 → 16 - a6.toInt < (n : Int) → nJ (NW E S0 (fun (r : Unit) (S' : MS) => True)) (gM_next_228 n a2 a3 a4 a5 a6 S) := by
  intro n
  induction n with
  | zero => intro a2 a3 a4 a5 a6 S mS FS hr_a5 p0_ p1_ p2_ p3_ p4_ p5_ p6_ p7_ m_; exfalso; omega
  | succ n ih =>
    intro a2 a3 a4 a5 a6 S mS FS hr_a5 p0_ p1_ p2_ p3_ p4_ p5_ p6_ p7_ m_
    unfold gM_next_228
    have L1_ : (0 : Int32).toInt = 0 := rfl
    have L2_ : (1 : Int32).toInt = 1 := rfl
    have r3_ := mi_f mS 62 rfl
    refine n_let ?_
    refine n_le (fun c4_ => ?_) (fun c4_ => ?_)
    · skip
      refine n_let ?_
      refine n_wI (L := 60) mS FS (by first | decide | exact hE _ (by decide) | simp) (by decide) (by decide) rfl (by omega) (by omega) (by omega) (by omega) (fun S5_ mS5_ FS5_ gS5_ hS5_ kS5_ => ?_)
      refine n_cW FS5_ (nM_tell  mS5_ (by first | omega | assumption) (by first | omega | assumption) (by first | omega | assumption) (by first | omega | assumption) (by first | omega | assumption) (by first | omega | assumption)) (by first | decide | (intro k q; exact hE k (by revert q; revert k; decide))) (fun v6_ S7_ mS7_ FS7_ fS7_ qv6_ => ?_)
      exact n_rW mS7_ FS7_ trivial
    · skip
      refine n_rJ hr_a5 (by omega) (by omega) (fun x68_ x68_e => ?_)
      have L9_ : (16 : Int32).toInt = 16 := rfl
      try have i10_ : ((16 : Int32) * a2).toInt = 16 * a2.toInt := i_mul (n := 16) rfl (by omega) (by omega)
      try have i11_ : (((16 : Int32) * a2) + a6).toInt = ((16 : Int32) * a2).toInt + a6.toInt := i_add (by omega) (by omega)
      refine n_wJ (L := 960) mS FS (by first | decide | exact hE _ (by decide) | simp) (by decide) (by omega) (by omega) (fun S12_ mS12_ FS12_ gS12_ hS12_ kS12_ => ?_)
      try have i14_ : (a6 + (1 : Int32)).toInt = a6.toInt + (1 : Int32).toInt := i_add (by omega) (by omega)
      refine n_letv (fun x813_ x813_v => ?_)
      have x813_t := congrArg Int32.toInt x813_v
      exact ih a2 a3 a4 a5 x813_ S12_ mS12_ FS12_ hr_a5 (by first | omega | assumption) (by first | omega | assumption) (by first | omega | assumption) (by first | omega | assumption) (by first | omega | assumption) (by first | omega | assumption) (by first | omega | assumption) (by first | omega | assumption) (by omega)

-- gM_next_166
set_option maxHeartbeats 4000000 in
theorem nM_next_166 {R : Unit → MS → Prop} {E : List Nat} {S0 : MS} {K14 : Int32 → Int32 → Int32 → Int32 → Nat → Int32 → MS → Option (Unit × MS)} {K26 : Int32 → Int32 → Int32 → Int32 → Nat → Int32 → Int32 → MS → Option (Unit × MS)} {a1 : Int32} {a2 : Int32} {a3 : Int32} {a4 : Int32} {a5 : Nat} {a6 : Int32} {a7 : Int32} (hE : ∀ k ∈ [], k ∈ E) (hr_a5 : rowL a5 1 17) (he_a5 : a5 ∈ E) (hK26 : ∀ (k0_ : Int32) (S' : MS), MI S' → fM E S0 S' → k0_.toInt = a7.toInt + 1 → 0 ≤ (S'.1 49).toInt → nJ R (K26 a1 a2 a3 a4 a5 a6 k0_ S')) : ∀ (n : Nat) (a9 : Int32) (S : MS), MI S → fM E S0 S → 0 ≤ a7.toInt → a7.toInt ≤ 15 → 0 ≤ a9.toInt → a9.toInt ≤ 16 → 0 ≤ (S.1 49).toInt → 16 - a9.toInt < (n : Int) → nJ R (gM_next_166 K14 K26 n a1 a2 a3 a4 a5 a6 a7 a9 S) := by
  intro n
  induction n with
  | zero => intro a9 S mS FS p0_ p1_ p2_ p3_ p4_ m_; exfalso; omega
  | succ n ih =>
    intro a9 S mS FS p0_ p1_ p2_ p3_ p4_ m_
    unfold gM_next_166
    have L1_ : (0 : Int32).toInt = 0 := rfl
    have L2_ : (1 : Int32).toInt = 1 := rfl
    have r3_ := mi_f mS 60 rfl
    refine n_let ?_
    refine n_le (fun c4_ => ?_) (fun c4_ => ?_)
    · skip
      try have i6_ : (a7 + (1 : Int32)).toInt = a7.toInt + (1 : Int32).toInt := i_add (by omega) (by omega)
      refine n_letv (fun x25_ x25_v => ?_)
      have x25_t := congrArg Int32.toInt x25_v
      have r7_ := mi_f mS 49 rfl
      exact hK26 _ _ mS FS (by first | omega | assumption) (by first | omega | assumption)
    · skip
      refine n_rJ (L := 17) (by decide) (by omega) (by omega) (fun x38_ x38_e => ?_)
      refine n_wJ mS FS he_a5 hr_a5 (by omega) (by omega) (fun S9_ mS9_ FS9_ gS9_ hS9_ kS9_ => ?_)
      have q10_ := congrArg Int32.toInt (congrFun gS9_ 49)
      try have i12_ : (a9 + (1 : Int32)).toInt = a9.toInt + (1 : Int32).toInt := i_add (by omega) (by omega)
      refine n_letv (fun x511_ x511_v => ?_)
      have x511_t := congrArg Int32.toInt x511_v
      have r13_ := mi_f mS9_ 49 rfl
      exact ih x511_ S9_ mS9_ FS9_ (by first | omega | assumption) (by first | omega | assumption) (by first | omega | assumption) (by first | omega | assumption) (by first | omega | assumption) (by omega)

-- gM_next_26
set_option maxHeartbeats 4000000 in
theorem nM_next_26 {R : Unit → MS → Prop} {E : List Nat} {S0 : MS} {K14 : Int32 → Int32 → Int32 → Int32 → Nat → Int32 → MS → Option (Unit × MS)} {a1 : Int32} {a2 : Int32} {a5 : Nat} {a6 : Int32} (hE : ∀ k ∈ [59, 60, 62], k ∈ E) (hr_a5 : rowL a5 1 17) (he_a5 : a5 ∈ E) (hK14 : ∀ (k0_ : Int32) (k1_ : Int32) (k2_ : Int32) (S' : MS), MI S' → fM E S0 S' → -1 ≤ k0_.toInt → k0_.toInt ≤ 39 → 0 ≤ k1_.toInt → k1_.toInt ≤ 15 → k2_.toInt = a6.toInt + 1 → 0 ≤ (S'.1 49).toInt → nJ R (K14 a1 a2 k0_ k1_ a5 k2_ S')) : ∀ (n : Nat) (a3 : Int32) (a4 : Int32) (a7 : Int32) (S : MS), MI S → fM E S0 S → 0 ≤ a1.toInt → a1.toInt ≤ 59 → 0 ≤ a2.toInt → a2.toInt ≤ 59 → -1 ≤ a3.toInt → a3.toInt ≤ 39 → 0 ≤ a4.toInt → a4.toInt ≤ 15 → 0 ≤ a6.toInt → a6.toInt ≤ 39 → 0 ≤ a7.toInt → a7.toInt ≤ 16 → 0 ≤ (S.1 49).toInt → 16 - a7.toInt < (n : Int) → nJ R (gM_next_26 K14 n a1 a2 a3 a4 a5 a6 a7 S) := by
  intro n
  induction n with
  | zero => intro a3 a4 a7 S mS FS p0_ p1_ p2_ p3_ p4_ p5_ p6_ p7_ p8_ p9_ p10_ p11_ p12_ m_; exfalso; omega
  | succ n ih =>
    intro a3 a4 a7 S mS FS p0_ p1_ p2_ p3_ p4_ p5_ p6_ p7_ p8_ p9_ p10_ p11_ p12_ m_
    unfold gM_next_26
    have L1_ : (0 : Int32).toInt = 0 := rfl
    have L2_ : (1 : Int32).toInt = 1 := rfl
    have L3_ : (16 : Int32).toInt = 16 := rfl
    refine n_le (fun c4_ => ?_) (fun c4_ => ?_)
    · skip
      try have i6_ : (a6 + (1 : Int32)).toInt = a6.toInt + (1 : Int32).toInt := i_add (by omega) (by omega)
      refine n_letv (fun x15_ x15_v => ?_)
      have x15_t := congrArg Int32.toInt x15_v
      have r7_ := mi_f mS 49 rfl
      exact hK14 _ _ _ _ mS FS (by first | omega | assumption) (by first | omega | assumption) (by first | omega | assumption) (by first | omega | assumption) (by first | omega | assumption) (by first | omega | assumption)
    · skip
      refine n_rI (L := 40) mS (by decide) rfl (by omega) (by omega) (fun x28_ x28_e x28_l x28_u => ?_)
      refine n_le (fun c9_ => ?_) (fun c9_ => ?_)
      · skip
        try have i11_ : (a6 + (1 : Int32)).toInt = a6.toInt + (1 : Int32).toInt := i_add (by omega) (by omega)
        refine n_letv (fun x310_ x310_v => ?_)
        have x310_t := congrArg Int32.toInt x310_v
        have r12_ := mi_f mS 49 rfl
        exact hK14 _ _ _ _ mS FS (by first | omega | assumption) (by first | omega | assumption) (by first | omega | assumption) (by first | omega | assumption) (by first | omega | assumption) (by first | omega | assumption)
      · skip
        refine n_cP (nM_isThere  mS (by first | omega | assumption) (by first | omega | assumption) (by first | omega | assumption) (by first | omega | assumption)) (fun x413_ qx413_ => ?_)
        refine n_eq (fun c14_ => ?_) (fun c14_ => ?_)
        · skip
          try have i16_ : (a7 + (1 : Int32)).toInt = a7.toInt + (1 : Int32).toInt := i_add (by omega) (by omega)
          refine n_letv (fun x1215_ x1215_v => ?_)
          have x1215_t := congrArg Int32.toInt x1215_v
          have r17_ := mi_f mS 49 rfl
          exact ih a3 a4 x1215_ S mS FS (by first | omega | assumption) (by first | omega | assumption) (by first | omega | assumption) (by first | omega | assumption) (by first | omega | assumption) (by first | omega | assumption) (by first | omega | assumption) (by first | omega | assumption) (by first | omega | assumption) (by first | omega | assumption) (by first | omega | assumption) (by first | omega | assumption) (by first | omega | assumption) (by omega)
        · skip
          refine n_cW FS (nM_nameOf  mS (by first | omega | assumption) (by first | omega | assumption) (by first | omega | assumption) (by first | omega | assumption)) (by first | decide | (intro k q; exact hE k (by revert q; revert k; decide))) (fun v18_ S19_ mS19_ FS19_ fS19_ qv18_ => ?_)
          have q20_ := congrArg Int32.toInt (fS19_.1 49 (by decide))
          have q21_ := congrArg Int32.toInt (fS19_.1 62 (by decide))
          have r22_ := mi_f mS19_ 60 rfl
          refine n_let ?_
          refine n_rI (L := 60) mS19_ (by decide) rfl (by omega) (by omega) (fun x923_ x923_e x923_l x923_u => ?_)
          try have i24_ : ((16 : Int32) * a1).toInt = 16 * a1.toInt := i_mul (n := 16) rfl (by omega) (by omega)
          refine n_cP (nM_order (L_a0 := 17) (L_a3 := 960) mS19_ (by decide) (by decide) (by first | omega | assumption) (by first | omega | assumption) (by first | omega | assumption) (by first | omega | assumption) (by first | omega | assumption) (by first | omega | assumption) (by first | omega | assumption)) (fun x1025_ qx1025_ => ?_)
          refine n_le (fun c26_ => ?_) (fun c26_ => ?_)
          · skip
            unfold gM_next_99
            rw [if_pos (by decide)]
            try have i28_ : (a7 + (1 : Int32)).toInt = a7.toInt + (1 : Int32).toInt := i_add (by omega) (by omega)
            refine n_letv (fun x127_ x127_v => ?_)
            have x127_t := congrArg Int32.toInt x127_v
            have r29_ := mi_f mS19_ 49 rfl
            exact ih a3 a4 x127_ S19_ mS19_ FS19_ (by first | omega | assumption) (by first | omega | assumption) (by first | omega | assumption) (by first | omega | assumption) (by first | omega | assumption) (by first | omega | assumption) (by first | omega | assumption) (by first | omega | assumption) (by first | omega | assumption) (by first | omega | assumption) (by first | omega | assumption) (by first | omega | assumption) (by first | omega | assumption) (by omega)
          · skip
            unfold gM_next_99
            rw [if_neg (by decide)]
            refine n_lt (fun c30_ => ?_) (fun c30_ => ?_)
            · skip
              unfold gM_next_132
              refine n_let ?_
              have r31_ := mi_f mS19_ 49 rfl
              refine n_cP (nM_inView (L_a1 := 17) mS19_ (by decide) (by first | omega | assumption) (by first | omega | assumption) (by first | omega | assumption) (by first | omega | assumption) (by first | omega | assumption) (by first | omega | assumption)) (fun x232_ qx232_ => ?_)
              refine n_eq (fun c33_ => ?_) (fun c33_ => ?_)
              · skip
                try have i35_ : (a7 + (1 : Int32)).toInt = a7.toInt + (1 : Int32).toInt := i_add (by omega) (by omega)
                refine n_letv (fun x434_ x434_v => ?_)
                have x434_t := congrArg Int32.toInt x434_v
                exact ih a3 a4 x434_ S19_ mS19_ FS19_ (by first | omega | assumption) (by first | omega | assumption) (by first | omega | assumption) (by first | omega | assumption) (by first | omega | assumption) (by first | omega | assumption) (by first | omega | assumption) (by first | omega | assumption) (by first | omega | assumption) (by first | omega | assumption) (by first | omega | assumption) (by first | omega | assumption) (by first | omega | assumption) (by omega)
              · skip
                refine n_let ?_
                refine n_sI mS19_ FS19_ (by first | decide | exact hE _ (by decide) | simp) rfl (by omega) (by omega) (fun S36_ mS36_ FS36_ vS36_ gS36_ hS36_ => ?_)
                have q37_ := congrArg Int32.toInt (gS36_ 49 (by decide))
                have r38_ := mi_f mS36_ 49 rfl
                exact nM_next_166  (by first | (intro k q; simp at q ⊢; omega) | simp_all) hr_a5 he_a5 (fun k0_ S' m' F' c0_ c1_ => by
                    have L1' : (1 : Int32).toInt = 1 := rfl
                    exact ih a6 a7 k0_ S' m' F' (by first | omega | assumption) (by first | omega | assumption) (by first | omega | assumption) (by first | omega | assumption) (by first | omega | assumption) (by first | omega | assumption) (by first | omega | assumption) (by first | omega | assumption) (by first | omega | assumption) (by first | omega | assumption) (by first | omega | assumption) (by first | omega | assumption) (by first | omega | assumption) (by omega)) _ _ _ mS36_ FS36_ (by first | omega | assumption) (by first | omega | assumption) (by first | omega | assumption) (by first | omega | assumption) (by first | omega | assumption) (by simp only [sm_fuel_eq]; omega)
            · skip
              refine n_let ?_
              have r39_ := mi_f mS19_ 62 rfl
              refine n_let ?_
              refine n_cP (nM_order (L_a0 := 17) (L_a3 := 17) mS19_ (by decide) hr_a5 (by first | omega | assumption) (by first | omega | assumption) (by first | omega | assumption) (by first | omega | assumption) (by first | omega | assumption) (by first | omega | assumption) (by first | omega | assumption)) (fun x440_ qx440_ => ?_)
              refine n_le (fun c41_ => ?_) (fun c41_ => ?_)
              · skip
                try have i43_ : (a7 + (1 : Int32)).toInt = a7.toInt + (1 : Int32).toInt := i_add (by omega) (by omega)
                refine n_letv (fun x642_ x642_v => ?_)
                have x642_t := congrArg Int32.toInt x642_v
                have r44_ := mi_f mS19_ 49 rfl
                exact ih a3 a4 x642_ S19_ mS19_ FS19_ (by first | omega | assumption) (by first | omega | assumption) (by first | omega | assumption) (by first | omega | assumption) (by first | omega | assumption) (by first | omega | assumption) (by first | omega | assumption) (by first | omega | assumption) (by first | omega | assumption) (by first | omega | assumption) (by first | omega | assumption) (by first | omega | assumption) (by first | omega | assumption) (by omega)
              · skip
                unfold gM_next_132
                refine n_let ?_
                have r45_ := mi_f mS19_ 49 rfl
                refine n_cP (nM_inView (L_a1 := 17) mS19_ (by decide) (by first | omega | assumption) (by first | omega | assumption) (by first | omega | assumption) (by first | omega | assumption) (by first | omega | assumption) (by first | omega | assumption)) (fun x246_ qx246_ => ?_)
                refine n_eq (fun c47_ => ?_) (fun c47_ => ?_)
                · skip
                  try have i49_ : (a7 + (1 : Int32)).toInt = a7.toInt + (1 : Int32).toInt := i_add (by omega) (by omega)
                  refine n_letv (fun x448_ x448_v => ?_)
                  have x448_t := congrArg Int32.toInt x448_v
                  exact ih a3 a4 x448_ S19_ mS19_ FS19_ (by first | omega | assumption) (by first | omega | assumption) (by first | omega | assumption) (by first | omega | assumption) (by first | omega | assumption) (by first | omega | assumption) (by first | omega | assumption) (by first | omega | assumption) (by first | omega | assumption) (by first | omega | assumption) (by first | omega | assumption) (by first | omega | assumption) (by first | omega | assumption) (by omega)
                · skip
                  refine n_let ?_
                  refine n_sI mS19_ FS19_ (by first | decide | exact hE _ (by decide) | simp) rfl (by omega) (by omega) (fun S50_ mS50_ FS50_ vS50_ gS50_ hS50_ => ?_)
                  have q51_ := congrArg Int32.toInt (gS50_ 49 (by decide))
                  have r52_ := mi_f mS50_ 49 rfl
                  exact nM_next_166  (by first | (intro k q; simp at q ⊢; omega) | simp_all) hr_a5 he_a5 (fun k0_ S' m' F' c0_ c1_ => by
                      have L1' : (1 : Int32).toInt = 1 := rfl
                      exact ih a6 a7 k0_ S' m' F' (by first | omega | assumption) (by first | omega | assumption) (by first | omega | assumption) (by first | omega | assumption) (by first | omega | assumption) (by first | omega | assumption) (by first | omega | assumption) (by first | omega | assumption) (by first | omega | assumption) (by first | omega | assumption) (by first | omega | assumption) (by first | omega | assumption) (by first | omega | assumption) (by omega)) _ _ _ mS50_ FS50_ (by first | omega | assumption) (by first | omega | assumption) (by first | omega | assumption) (by first | omega | assumption) (by first | omega | assumption) (by simp only [sm_fuel_eq]; omega)
