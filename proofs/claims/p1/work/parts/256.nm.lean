-- gM_readAll_414
set_option maxHeartbeats 4000000 in
theorem nM_readAll_414 {E : List Nat} {S0 : MS} (hE : ∀ k ∈ [36, 37, 38, 39, 40, 41, 42, 43, 44, 45, 46, 58], k ∈ E) : ∀ (n : Nat) (a1 : Int32) (a2 : Int32) (a4 : Int32) (a5 : Int32) (S : MS), MI S → fM E S0 S → 0 ≤ a1.toInt → a1.toInt ≤ 1200 → 0 ≤ a2.toInt → a2.toInt ≤ 1200 → 0 ≤ a4.toInt → a4.toInt ≤ 1200 → 0 ≤ a5.toInt → a5.toInt ≤ 1200 → 0 ≤ (S.1 49).toInt → (S.1 51).toInt ≤ 40 → (S.1 50).toInt + (S.1 51).toInt ≤ 1200 → 4 * (20 - (S.1 46).toInt) + 3 - (S.1 45).toInt < (n : Int) → nJ (NW E S0 (fun (r : Unit) (S' : MS) => (S'.1 45).toInt ≠ 0 ∨ (0 ≤ (S'.1 49).toInt ∧ (S'.1 51).toInt ≤ 40 ∧ (S'.1 50).toInt + (S'.1 51).toInt ≤ 1200))) (gM_readAll_414 n a1 a2 a4 a5 S) := by
  intro n
  induction n with
  | zero => intro a1 a2 a4 a5 S mS FS p0_ p1_ p2_ p3_ p4_ p5_ p6_ p7_ p8_ p9_ p10_ m_; exfalso; have z45_ := mi_f mS 45 rfl; have z46_ := mi_f mS 46 rfl; omega
  | succ n ih =>
    intro a1 a2 a4 a5 S mS FS p0_ p1_ p2_ p3_ p4_ p5_ p6_ p7_ p8_ p9_ p10_ m_
    have r1_ := mi_f mS 45 rfl
    have r2_ := mi_f mS 46 rfl
    unfold gM_readAll_414
    have L3_ : (0 : Int32).toInt = 0 := rfl
    have L4_ : (1 : Int32).toInt = 1 := rfl
    refine n_let ?_
    refine n_eq (fun c5_ => ?_) (fun c5_ => ?_)
    · skip
      have r6_ := mi_f mS 44 rfl
      refine n_let ?_
      refine n_le (fun c7_ => ?_) (fun c7_ => ?_)
      · skip
        unfold gM_readAll_456
        refine n_let ?_
        refine n_eq (fun c8_ => ?_) (fun c8_ => ?_)
        · skip
          refine n_let ?_
          refine n_eq (fun c9_ => ?_) (fun c9_ => ?_)
          · skip
            refine n_let ?_
            refine n_eq (fun c10_ => ?_) (fun c10_ => ?_)
            · skip
              refine n_let ?_
              refine n_eq (fun c11_ => ?_) (fun c11_ => ?_)
              · skip
                have r12_ := mi_f mS 49 rfl
                have r13_ := mi_f mS 50 rfl
                have r14_ := mi_f mS 51 rfl
                exact n_rW mS FS (by omega)
              · skip
                refine n_sI mS FS (by first | decide | exact hE _ (by decide) | simp) rfl (by omega) (by omega) (fun S15_ mS15_ FS15_ vS15_ gS15_ hS15_ => ?_)
                have q16_ := congrArg Int32.toInt (gS15_ 49 (by decide))
                have q17_ := congrArg Int32.toInt (gS15_ 50 (by decide))
                have q18_ := congrArg Int32.toInt (gS15_ 51 (by decide))
                have q19_ := congrArg Int32.toInt vS15_
                have r20_ := mi_f mS15_ 49 rfl
                have r21_ := mi_f mS15_ 50 rfl
                have r22_ := mi_f mS15_ 51 rfl
                have r23_ := mi_f mS15_ 45 rfl
                exact n_rW mS15_ FS15_ (by omega)
            · skip
              refine n_sI mS FS (by first | decide | exact hE _ (by decide) | simp) rfl (by omega) (by omega) (fun S24_ mS24_ FS24_ vS24_ gS24_ hS24_ => ?_)
              have q25_ := congrArg Int32.toInt (gS24_ 49 (by decide))
              have q26_ := congrArg Int32.toInt (gS24_ 50 (by decide))
              have q27_ := congrArg Int32.toInt (gS24_ 51 (by decide))
              have q28_ := congrArg Int32.toInt vS24_
              have r29_ := mi_f mS24_ 49 rfl
              have r30_ := mi_f mS24_ 50 rfl
              have r31_ := mi_f mS24_ 51 rfl
              have r32_ := mi_f mS24_ 45 rfl
              exact n_rW mS24_ FS24_ (by omega)
          · skip
            refine n_sI mS FS (by first | decide | exact hE _ (by decide) | simp) rfl (by omega) (by omega) (fun S33_ mS33_ FS33_ vS33_ gS33_ hS33_ => ?_)
            have q34_ := congrArg Int32.toInt (gS33_ 49 (by decide))
            have q35_ := congrArg Int32.toInt (gS33_ 50 (by decide))
            have q36_ := congrArg Int32.toInt (gS33_ 51 (by decide))
            have q37_ := congrArg Int32.toInt vS33_
            have r38_ := mi_f mS33_ 49 rfl
            have r39_ := mi_f mS33_ 50 rfl
            have r40_ := mi_f mS33_ 51 rfl
            have r41_ := mi_f mS33_ 45 rfl
            exact n_rW mS33_ FS33_ (by omega)
        · skip
          have r42_ := mi_f mS 49 rfl
          have r43_ := mi_f mS 50 rfl
          have r44_ := mi_f mS 51 rfl
          exact n_rW mS FS (by omega)
      · skip
        refine n_let ?_
        have L45_ : (20 : Int32).toInt = 20 := rfl
        refine n_eq (fun c46_ => ?_) (fun c46_ => ?_)
        · skip
          refine n_sI mS FS (by first | decide | exact hE _ (by decide) | simp) rfl (by omega) (by omega) (fun S47_ mS47_ FS47_ vS47_ gS47_ hS47_ => ?_)
          have q48_ := congrArg Int32.toInt (gS47_ 46 (by decide))
          have q49_ := congrArg Int32.toInt (gS47_ 49 (by decide))
          have q50_ := congrArg Int32.toInt (gS47_ 50 (by decide))
          have q51_ := congrArg Int32.toInt (gS47_ 51 (by decide))
          have q52_ := congrArg Int32.toInt vS47_
          have r53_ := mi_f mS47_ 49 rfl
          have r54_ := mi_f mS47_ 51 rfl
          have r55_ := mi_f mS47_ 50 rfl
          have r56_ := mi_f mS47_ 45 rfl
          have r57_ := mi_f mS47_ 46 rfl
          exact ih a1 a2 a4 a5 S47_ mS47_ FS47_ (by first | omega | assumption) (by first | omega | assumption) (by first | omega | assumption) (by first | omega | assumption) (by first | omega | assumption) (by first | omega | assumption) (by first | omega | assumption) (by first | omega | assumption) (by first | omega | assumption) (by first | omega | assumption) (by first | omega | assumption) (by omega)
        · skip
          refine n_cW FS (nM_readRow  mS (by first | omega | assumption) (by first | omega | assumption) (by first | omega | assumption)) (by first | decide | (intro k q; exact hE k (by revert q; revert k; decide))) (fun v58_ S59_ mS59_ FS59_ fS59_ qv58_ => ?_)
          have q60_ := congrArg Int32.toInt (fS59_.1 49 (by decide))
          have q61_ := congrArg Int32.toInt (fS59_.1 50 (by decide))
          have q62_ := congrArg Int32.toInt (fS59_.1 51 (by decide))
          have r63_ := mi_f mS59_ 46 rfl
          have r64_ := mi_f mS59_ 49 rfl
          have r65_ := mi_f mS59_ 51 rfl
          have r66_ := mi_f mS59_ 50 rfl
          have r67_ := mi_f mS59_ 45 rfl
          exact ih a1 a2 a4 a5 S59_ mS59_ FS59_ (by first | omega | assumption) (by first | omega | assumption) (by first | omega | assumption) (by first | omega | assumption) (by first | omega | assumption) (by first | omega | assumption) (by first | omega | assumption) (by first | omega | assumption) (by first | omega | assumption) (by first | omega | assumption) (by first | omega | assumption) (by omega)
    · skip
      unfold gM_readAll_456
      refine n_let ?_
      refine n_eq (fun c68_ => ?_) (fun c68_ => ?_)
      · skip
        have r69_ := mi_f mS 44 rfl
        refine n_let ?_
        refine n_eq (fun c70_ => ?_) (fun c70_ => ?_)
        · skip
          refine n_let ?_
          refine n_eq (fun c71_ => ?_) (fun c71_ => ?_)
          · skip
            refine n_let ?_
            refine n_eq (fun c72_ => ?_) (fun c72_ => ?_)
            · skip
              have r73_ := mi_f mS 49 rfl
              have r74_ := mi_f mS 50 rfl
              have r75_ := mi_f mS 51 rfl
              exact n_rW mS FS (by omega)
            · skip
              refine n_sI mS FS (by first | decide | exact hE _ (by decide) | simp) rfl (by omega) (by omega) (fun S76_ mS76_ FS76_ vS76_ gS76_ hS76_ => ?_)
              have q77_ := congrArg Int32.toInt (gS76_ 49 (by decide))
              have q78_ := congrArg Int32.toInt (gS76_ 50 (by decide))
              have q79_ := congrArg Int32.toInt (gS76_ 51 (by decide))
              have q80_ := congrArg Int32.toInt vS76_
              have r81_ := mi_f mS76_ 49 rfl
              have r82_ := mi_f mS76_ 50 rfl
              have r83_ := mi_f mS76_ 51 rfl
              have r84_ := mi_f mS76_ 45 rfl
              exact n_rW mS76_ FS76_ (by omega)
          · skip
            refine n_sI mS FS (by first | decide | exact hE _ (by decide) | simp) rfl (by omega) (by omega) (fun S85_ mS85_ FS85_ vS85_ gS85_ hS85_ => ?_)
            have q86_ := congrArg Int32.toInt (gS85_ 49 (by decide))
            have q87_ := congrArg Int32.toInt (gS85_ 50 (by decide))
            have q88_ := congrArg Int32.toInt (gS85_ 51 (by decide))
            have q89_ := congrArg Int32.toInt vS85_
            have r90_ := mi_f mS85_ 49 rfl
            have r91_ := mi_f mS85_ 50 rfl
            have r92_ := mi_f mS85_ 51 rfl
            have r93_ := mi_f mS85_ 45 rfl
            exact n_rW mS85_ FS85_ (by omega)
        · skip
          refine n_sI mS FS (by first | decide | exact hE _ (by decide) | simp) rfl (by omega) (by omega) (fun S94_ mS94_ FS94_ vS94_ gS94_ hS94_ => ?_)
          have q95_ := congrArg Int32.toInt (gS94_ 49 (by decide))
          have q96_ := congrArg Int32.toInt (gS94_ 50 (by decide))
          have q97_ := congrArg Int32.toInt (gS94_ 51 (by decide))
          have q98_ := congrArg Int32.toInt vS94_
          have r99_ := mi_f mS94_ 49 rfl
          have r100_ := mi_f mS94_ 50 rfl
          have r101_ := mi_f mS94_ 51 rfl
          have r102_ := mi_f mS94_ 45 rfl
          exact n_rW mS94_ FS94_ (by omega)
      · skip
        have r103_ := mi_f mS 49 rfl
        have r104_ := mi_f mS 50 rfl
        have r105_ := mi_f mS 51 rfl
        exact n_rW mS FS (by omega)

-- gM_readAll_387
set_option maxHeartbeats 4000000 in
theorem nM_readAll_387 {a1 : Int32} {a2 : Int32} {a4 : Int32} {s0 : Int32} {S : MS} (mS : MI S)  (p0_ : 0 ≤ a1.toInt) (p1_ : a1.toInt ≤ 1200) (p2_ : 0 ≤ a2.toInt) (p3_ : a2.toInt ≤ 1200) (p4_ : 0 ≤ a4.toInt) (p5_ : a4.toInt ≤ 1200) (p6_ : 0 ≤ s0.toInt) (p7_ : s0.toInt ≤ 1200) (p8_ : 0 ≤ (S.1 49).toInt) (p9_ : (S.1 51).toInt ≤ 40) (p10_ : (S.1 50).toInt + (S.1 51).toInt ≤ 1200) : nJ (NW [36, 37, 38, 39, 40, 41, 42, 43, 44, 45, 46, 58] S (fun (r : Unit) (S' : MS) => (S'.1 45).toInt ≠ 0 ∨ (0 ≤ (S'.1 49).toInt ∧ (S'.1 51).toInt ≤ 40 ∧ (S'.1 50).toInt + (S'.1 51).toInt ≤ 1200))) (gM_readAll_387 a1 a2 a4 s0 S) := by
  unfold gM_readAll_387
  have FS := fM_rf [36, 37, 38, 39, 40, 41, 42, 43, 44, 45, 46, 58] S
  have L1_ : (0 : Int32).toInt = 0 := rfl
  have L2_ : (1 : Int32).toInt = 1 := rfl
  have r3_ := mi_f mS 45 rfl
  refine n_let ?_
  refine n_eq (fun c4_ => ?_) (fun c4_ => ?_)
  · skip
    refine n_eq (fun c5_ => ?_) (fun c5_ => ?_)
    · skip
      refine n_let ?_
      refine n_sI mS FS (by first | decide | exact hE _ (by decide) | simp) rfl (by omega) (by omega) (fun S6_ mS6_ FS6_ vS6_ gS6_ hS6_ => ?_)
      have q7_ := congrArg Int32.toInt (gS6_ 46 (by decide))
      have q8_ := congrArg Int32.toInt (gS6_ 49 (by decide))
      have q9_ := congrArg Int32.toInt (gS6_ 50 (by decide))
      have q10_ := congrArg Int32.toInt (gS6_ 51 (by decide))
      have q11_ := congrArg Int32.toInt vS6_
      have r12_ := mi_f mS6_ 49 rfl
      have r13_ := mi_f mS6_ 51 rfl
      have r14_ := mi_f mS6_ 50 rfl
      have r15_ := mi_f mS6_ 45 rfl
      have r16_ := mi_f mS6_ 46 rfl
      exact nM_readAll_414  (by first | decide | (intro k q; exact hE k (by revert q; revert k; decide))) _ _ _ _ _ _ mS6_ FS6_ (by first | omega | assumption) (by first | omega | assumption) (by first | omega | assumption) (by first | omega | assumption) (by first | omega | assumption) (by first | omega | assumption) (by first | omega | assumption) (by first | omega | assumption) (by first | omega | assumption) (by first | omega | assumption) (by first | omega | assumption) (by simp only [sm_fuel_eq]; omega)
    · skip
      refine n_sI mS FS (by first | decide | exact hE _ (by decide) | simp) rfl (by omega) (by omega) (fun S17_ mS17_ FS17_ vS17_ gS17_ hS17_ => ?_)
      have q18_ := congrArg Int32.toInt (gS17_ 46 (by decide))
      have q19_ := congrArg Int32.toInt (gS17_ 49 (by decide))
      have q20_ := congrArg Int32.toInt (gS17_ 50 (by decide))
      have q21_ := congrArg Int32.toInt (gS17_ 51 (by decide))
      have q22_ := congrArg Int32.toInt vS17_
      have r23_ := mi_f mS17_ 49 rfl
      have r24_ := mi_f mS17_ 51 rfl
      have r25_ := mi_f mS17_ 50 rfl
      have r26_ := mi_f mS17_ 45 rfl
      have r27_ := mi_f mS17_ 46 rfl
      exact nM_readAll_414  (by first | decide | (intro k q; exact hE k (by revert q; revert k; decide))) _ _ _ _ _ _ mS17_ FS17_ (by first | omega | assumption) (by first | omega | assumption) (by first | omega | assumption) (by first | omega | assumption) (by first | omega | assumption) (by first | omega | assumption) (by first | omega | assumption) (by first | omega | assumption) (by first | omega | assumption) (by first | omega | assumption) (by first | omega | assumption) (by simp only [sm_fuel_eq]; omega)
  · skip
    refine n_let ?_
    refine n_sI mS FS (by first | decide | exact hE _ (by decide) | simp) rfl (by omega) (by omega) (fun S28_ mS28_ FS28_ vS28_ gS28_ hS28_ => ?_)
    have q29_ := congrArg Int32.toInt (gS28_ 46 (by decide))
    have q30_ := congrArg Int32.toInt (gS28_ 49 (by decide))
    have q31_ := congrArg Int32.toInt (gS28_ 50 (by decide))
    have q32_ := congrArg Int32.toInt (gS28_ 51 (by decide))
    have q33_ := congrArg Int32.toInt vS28_
    have r34_ := mi_f mS28_ 49 rfl
    have r35_ := mi_f mS28_ 51 rfl
    have r36_ := mi_f mS28_ 50 rfl
    have r37_ := mi_f mS28_ 45 rfl
    have r38_ := mi_f mS28_ 46 rfl
    exact nM_readAll_414  (by first | decide | (intro k q; exact hE k (by revert q; revert k; decide))) _ _ _ _ _ _ mS28_ FS28_ (by first | omega | assumption) (by first | omega | assumption) (by first | omega | assumption) (by first | omega | assumption) (by first | omega | assumption) (by first | omega | assumption) (by first | omega | assumption) (by first | omega | assumption) (by first | omega | assumption) (by first | omega | assumption) (by first | omega | assumption) (by simp only [sm_fuel_eq]; omega)

-- gM_readAll_362
set_option maxHeartbeats 4000000 in
theorem nM_readAll_362 {a1 : Int32} {a2 : Int32} {a4 : Int32} {s0 : Int32} {S : MS} (mS : MI S)  (p0_ : 0 ≤ a1.toInt) (p1_ : a1.toInt ≤ 1200) (p2_ : 0 ≤ a2.toInt) (p3_ : a2.toInt ≤ 1200) (p4_ : 0 ≤ a4.toInt) (p5_ : a4.toInt ≤ 1200) (p6_ : 0 ≤ (S.1 49).toInt) (p7_ : (S.1 51).toInt ≤ 40) (p8_ : (S.1 50).toInt + (S.1 51).toInt ≤ 1200) : nJ (NW [36, 37, 38, 39, 40, 41, 42, 43, 44, 45, 46, 55, 58] S (fun (r : Unit) (S' : MS) => (S'.1 45).toInt ≠ 0 ∨ (0 ≤ (S'.1 49).toInt ∧ (S'.1 51).toInt ≤ 40 ∧ (S'.1 50).toInt + (S'.1 51).toInt ≤ 1200))) (gM_readAll_362 a1 a2 a4 s0 S) := by
  unfold gM_readAll_362
  have FS := fM_rf [36, 37, 38, 39, 40, 41, 42, 43, 44, 45, 46, 55, 58] S
  have L1_ : (0 : Int32).toInt = 0 := rfl
  have L2_ : (1 : Int32).toInt = 1 := rfl
  refine n_sI mS FS (by first | decide | exact hE _ (by decide) | simp) rfl (i_lo _) (i_hi _) (fun S3_ mS3_ FS3_ vS3_ gS3_ hS3_ => ?_)
  have q4_ := congrArg Int32.toInt (gS3_ 44 (by decide))
  have q5_ := congrArg Int32.toInt (gS3_ 45 (by decide))
  have q6_ := congrArg Int32.toInt (gS3_ 46 (by decide))
  have q7_ := congrArg Int32.toInt (gS3_ 49 (by decide))
  have q8_ := congrArg Int32.toInt (gS3_ 50 (by decide))
  have q9_ := congrArg Int32.toInt (gS3_ 51 (by decide))
  have r10_ := mi_f mS3_ 45 rfl
  refine n_let ?_
  refine n_eq (fun c11_ => ?_) (fun c11_ => ?_)
  · skip
    have L12_ : (48 : Int32).toInt = 48 := rfl
    refine n_cW FS3_ (nM_field  mS3_ (by first | omega | assumption) (by first | omega | assumption)) (by first | decide | (intro k q; exact hE k (by revert q; revert k; decide))) (fun x413_ S14_ mS14_ FS14_ fS14_ qx413_ => ?_)
    have q15_ := congrArg Int32.toInt (fS14_.1 46 (by decide))
    have q16_ := congrArg Int32.toInt (fS14_.1 49 (by decide))
    have q17_ := congrArg Int32.toInt (fS14_.1 50 (by decide))
    have q18_ := congrArg Int32.toInt (fS14_.1 51 (by decide))
    have r19_ := mi_f mS14_ 44 rfl
    have r20_ := mi_f mS14_ 45 rfl
    have r21_ := mi_f mS14_ 49 rfl
    have r22_ := mi_f mS14_ 51 rfl
    have r23_ := mi_f mS14_ 50 rfl
    exact n_WW FS14_ (nM_readAll_387  mS14_ (by first | omega | assumption) (by first | omega | assumption) (by first | omega | assumption) (by first | omega | assumption) (by first | omega | assumption) (by first | omega | assumption) (by first | omega | assumption) (by first | omega | assumption) (by first | omega | assumption) (by first | omega | assumption) (by first | omega | assumption)) (by first | decide | (intro k q; exact hE k (by revert q; revert k; decide))) (fun _ _ _ f q => by first | exact q | trivial | omega)
  · skip
    have r24_ := mi_f mS3_ 44 rfl
    refine n_let ?_
    have r25_ := mi_f mS3_ 49 rfl
    have r26_ := mi_f mS3_ 51 rfl
    have r27_ := mi_f mS3_ 50 rfl
    exact n_WW FS3_ (nM_readAll_387  mS3_ (by first | omega | assumption) (by first | omega | assumption) (by first | omega | assumption) (by first | omega | assumption) (by first | omega | assumption) (by first | omega | assumption) (by first | omega | assumption) (by first | omega | assumption) (by first | omega | assumption) (by first | omega | assumption) (by first | omega | assumption)) (by first | decide | (intro k q; exact hE k (by revert q; revert k; decide))) (fun _ _ _ f q => by first | exact q | trivial | omega)
