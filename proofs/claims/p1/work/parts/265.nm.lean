-- gM_checkPlace_194
set_option maxHeartbeats 4000000 in
theorem nM_checkPlace_194 {E : List Nat} {S0 : MS} (hE : ∀ k ∈ [56, 57], k ∈ E) : ∀ (n : Nat) (a1 : Int32) (a2 : Int32) (a5 : Int32) (a6 : Int32) (a7 : Int32) (a8 : Int32) (a9 : Int32) (a10 : Int32) (S : MS), MI S → fM E S0 S → 0 ≤ a1.toInt → a1.toInt ≤ 19 → 0 ≤ a2.toInt → a2.toInt ≤ 39 → 0 ≤ a5.toInt → a5.toInt ≤ 3 → 0 ≤ a10.toInt → a10.toInt ≤ 20 → 20 - a10.toInt < (n : Int) → nJ (NW E S0 (fun (r : Unit) (S' : MS) => True)) (gM_checkPlace_194 n a1 a2 a5 a6 a7 a8 a9 a10 S) := by
  intro n
  induction n with
  | zero => intro a1 a2 a5 a6 a7 a8 a9 a10 S mS FS p0_ p1_ p2_ p3_ p4_ p5_ p6_ p7_ m_; exfalso; omega
  | succ n ih =>
    intro a1 a2 a5 a6 a7 a8 a9 a10 S mS FS p0_ p1_ p2_ p3_ p4_ p5_ p6_ p7_ m_
    unfold gM_checkPlace_194
    have L1_ : (0 : Int32).toInt = 0 := rfl
    have L2_ : (1 : Int32).toInt = 1 := rfl
    refine n_le (fun c3_ => ?_) (fun c3_ => ?_)
    · skip
      refine n_rI (L := 40) mS (by decide) rfl (by omega) (by omega) (fun x14_ x14_e x14_l x14_u => ?_)
      refine n_eq (fun c5_ => ?_) (fun c5_ => ?_)
      · skip
        refine n_eq (fun c6_ => ?_) (fun c6_ => ?_)
        · skip
          refine n_eq (fun c7_ => ?_) (fun c7_ => ?_)
          · skip
            have L8_ : (18 : Int32).toInt = 18 := rfl
            refine n_cW FS (nM_fail  mS (by first | omega | assumption)) (by first | decide | (intro k q; exact hE k (by revert q; revert k; decide))) (fun v9_ S10_ mS10_ FS10_ fS10_ qv9_ => ?_)
            exact n_rW mS10_ FS10_ trivial
          · skip
            exact n_rW mS FS trivial
        · skip
          exact n_rW mS FS trivial
      · skip
        refine n_rJ (L := 60) (by decide) (by omega) (by omega) (fun x211_ x211_e => ?_)
        have L12_ : (3 : Int64).toInt = 3 := rfl
        refine n_l4 (fun c13_ => ?_) (fun c13_ => ?_)
        · skip
          unfold gM_checkPlace_345
          have L14_ : (4 : Int64).toInt = 4 := rfl
          have L15_ : (5 : Int64).toInt = 5 := rfl
          refine n_cP (nM_in  mS ) (fun x116_ qx116_ => ?_)
          refine n_eq (fun c17_ => ?_) (fun c17_ => ?_)
          · skip
            unfold gM_checkPlace_379
            refine n_cP (nM_in  mS ) (fun x118_ qx118_ => ?_)
            refine n_eq (fun c19_ => ?_) (fun c19_ => ?_)
            · skip
              exact n_rW mS FS trivial
            · skip
              have L20_ : (16 : Int32).toInt = 16 := rfl
              refine n_lt (fun c21_ => ?_) (fun c21_ => ?_)
              · skip
                exact n_rW mS FS trivial
              · skip
                have L22_ : (13 : Int32).toInt = 13 := rfl
                refine n_cW FS (nM_fail  mS (by first | omega | assumption)) (by first | decide | (intro k q; exact hE k (by revert q; revert k; decide))) (fun v23_ S24_ mS24_ FS24_ fS24_ qv23_ => ?_)
                exact n_rW mS24_ FS24_ trivial
          · skip
            refine n_eq (fun c25_ => ?_) (fun c25_ => ?_)
            · skip
              refine n_eq (fun c26_ => ?_) (fun c26_ => ?_)
              · skip
                unfold gM_checkPlace_379
                refine n_cP (nM_in  mS ) (fun x127_ qx127_ => ?_)
                refine n_eq (fun c28_ => ?_) (fun c28_ => ?_)
                · skip
                  exact n_rW mS FS trivial
                · skip
                  have L29_ : (16 : Int32).toInt = 16 := rfl
                  refine n_lt (fun c30_ => ?_) (fun c30_ => ?_)
                  · skip
                    exact n_rW mS FS trivial
                  · skip
                    have L31_ : (13 : Int32).toInt = 13 := rfl
                    refine n_cW FS (nM_fail  mS (by first | omega | assumption)) (by first | decide | (intro k q; exact hE k (by revert q; revert k; decide))) (fun v32_ S33_ mS33_ FS33_ fS33_ qv32_ => ?_)
                    exact n_rW mS33_ FS33_ trivial
              · skip
                have L34_ : (12 : Int32).toInt = 12 := rfl
                refine n_cW FS (nM_fail  mS (by first | omega | assumption)) (by first | decide | (intro k q; exact hE k (by revert q; revert k; decide))) (fun v35_ S36_ mS36_ FS36_ fS36_ qv35_ => ?_)
                exact n_rW mS36_ FS36_ trivial
            · skip
              have L37_ : (12 : Int32).toInt = 12 := rfl
              refine n_cW FS (nM_fail  mS (by first | omega | assumption)) (by first | decide | (intro k q; exact hE k (by revert q; revert k; decide))) (fun v38_ S39_ mS39_ FS39_ fS39_ qv38_ => ?_)
              exact n_rW mS39_ FS39_ trivial
        · skip
          refine n_eq (fun c40_ => ?_) (fun c40_ => ?_)
          · skip
            have L41_ : (12 : Int32).toInt = 12 := rfl
            refine n_cW FS (nM_fail  mS (by first | omega | assumption)) (by first | decide | (intro k q; exact hE k (by revert q; revert k; decide))) (fun v42_ S43_ mS43_ FS43_ fS43_ qv42_ => ?_)
            exact n_rW mS43_ FS43_ trivial
          · skip
            unfold gM_checkPlace_345
            have L44_ : (4 : Int64).toInt = 4 := rfl
            have L45_ : (5 : Int64).toInt = 5 := rfl
            refine n_cP (nM_in  mS ) (fun x146_ qx146_ => ?_)
            refine n_eq (fun c47_ => ?_) (fun c47_ => ?_)
            · skip
              unfold gM_checkPlace_379
              refine n_cP (nM_in  mS ) (fun x148_ qx148_ => ?_)
              refine n_eq (fun c49_ => ?_) (fun c49_ => ?_)
              · skip
                exact n_rW mS FS trivial
              · skip
                have L50_ : (16 : Int32).toInt = 16 := rfl
                refine n_lt (fun c51_ => ?_) (fun c51_ => ?_)
                · skip
                  exact n_rW mS FS trivial
                · skip
                  have L52_ : (13 : Int32).toInt = 13 := rfl
                  refine n_cW FS (nM_fail  mS (by first | omega | assumption)) (by first | decide | (intro k q; exact hE k (by revert q; revert k; decide))) (fun v53_ S54_ mS54_ FS54_ fS54_ qv53_ => ?_)
                  exact n_rW mS54_ FS54_ trivial
            · skip
              refine n_eq (fun c55_ => ?_) (fun c55_ => ?_)
              · skip
                refine n_eq (fun c56_ => ?_) (fun c56_ => ?_)
                · skip
                  unfold gM_checkPlace_379
                  refine n_cP (nM_in  mS ) (fun x157_ qx157_ => ?_)
                  refine n_eq (fun c58_ => ?_) (fun c58_ => ?_)
                  · skip
                    exact n_rW mS FS trivial
                  · skip
                    have L59_ : (16 : Int32).toInt = 16 := rfl
                    refine n_lt (fun c60_ => ?_) (fun c60_ => ?_)
                    · skip
                      exact n_rW mS FS trivial
                    · skip
                      have L61_ : (13 : Int32).toInt = 13 := rfl
                      refine n_cW FS (nM_fail  mS (by first | omega | assumption)) (by first | decide | (intro k q; exact hE k (by revert q; revert k; decide))) (fun v62_ S63_ mS63_ FS63_ fS63_ qv62_ => ?_)
                      exact n_rW mS63_ FS63_ trivial
                · skip
                  have L64_ : (12 : Int32).toInt = 12 := rfl
                  refine n_cW FS (nM_fail  mS (by first | omega | assumption)) (by first | decide | (intro k q; exact hE k (by revert q; revert k; decide))) (fun v65_ S66_ mS66_ FS66_ fS66_ qv65_ => ?_)
                  exact n_rW mS66_ FS66_ trivial
              · skip
                have L67_ : (12 : Int32).toInt = 12 := rfl
                refine n_cW FS (nM_fail  mS (by first | omega | assumption)) (by first | decide | (intro k q; exact hE k (by revert q; revert k; decide))) (fun v68_ S69_ mS69_ FS69_ fS69_ qv68_ => ?_)
                exact n_rW mS69_ FS69_ trivial
    · skip
      refine n_rI (L := 60) mS (by decide) rfl (by omega) (by omega) (fun x770_ x770_e x770_l x770_u => ?_)
      have L71_ : (16 : Int32).toInt = 16 := rfl
      try have i72_ : ((16 : Int32) * a10).toInt = 16 * a10.toInt := i_mul (n := 16) rfl (by omega) (by omega)
      have L73_ : (2 : Int32).toInt = 2 := rfl
      refine n_cP (nM_objectOf (L_a1 := 960) mS (by decide) (by first | omega | assumption) (by first | omega | assumption) (by first | omega | assumption) (by first | omega | assumption) (by first | omega | assumption)) (fun x874_ qx874_ => ?_)
      refine n_lt (fun c75_ => ?_) (fun c75_ => ?_)
      · skip
        try have i77_ : (a9 + (0 : Int32)).toInt = a9.toInt + (0 : Int32).toInt := i_add (by omega) (by omega)
        refine n_letv (fun x1076_ x1076_v => ?_)
        have x1076_t := congrArg Int32.toInt x1076_v
        try have i79_ : (a10 + (1 : Int32)).toInt = a10.toInt + (1 : Int32).toInt := i_add (by omega) (by omega)
        refine n_letv (fun x1178_ x1178_v => ?_)
        have x1178_t := congrArg Int32.toInt x1178_v
        exact ih a1 a2 a5 a6 a7 a8 x1076_ x1178_ S mS FS (by first | omega | assumption) (by first | omega | assumption) (by first | omega | assumption) (by first | omega | assumption) (by first | omega | assumption) (by first | omega | assumption) (by first | omega | assumption) (by first | omega | assumption) (by omega)
      · skip
        refine n_rI (L := 40) mS (by decide) rfl (by omega) (by omega) (fun x1280_ x1280_e x1280_l x1280_u => ?_)
        refine n_eq (fun c81_ => ?_) (fun c81_ => ?_)
        · skip
          try have i83_ : (a9 + (0 : Int32)).toInt = a9.toInt + (0 : Int32).toInt := i_add (by omega) (by omega)
          refine n_letv (fun x1382_ x1382_v => ?_)
          have x1382_t := congrArg Int32.toInt x1382_v
          try have i85_ : (a10 + (1 : Int32)).toInt = a10.toInt + (1 : Int32).toInt := i_add (by omega) (by omega)
          refine n_letv (fun x1484_ x1484_v => ?_)
          have x1484_t := congrArg Int32.toInt x1484_v
          exact ih a1 a2 a5 a6 a7 a8 x1382_ x1484_ S mS FS (by first | omega | assumption) (by first | omega | assumption) (by first | omega | assumption) (by first | omega | assumption) (by first | omega | assumption) (by first | omega | assumption) (by first | omega | assumption) (by first | omega | assumption) (by omega)
        · skip
          refine n_rI (L := 40) mS (by decide) rfl (by omega) (by omega) (fun x1586_ x1586_e x1586_l x1586_u => ?_)
          refine n_eq (fun c87_ => ?_) (fun c87_ => ?_)
          · skip
            refine n_rI (L := 60) mS (by decide) rfl (by omega) (by omega) (fun x1888_ x1888_e x1888_l x1888_u => ?_)
            refine n_eq (fun c89_ => ?_) (fun c89_ => ?_)
            · skip
              refine n_rJ (L := 60) (by decide) (by omega) (by omega) (fun x2190_ x2190_e => ?_)
              have L91_ : (4 : Int64).toInt = 4 := rfl
              have L92_ : (5 : Int64).toInt = 5 := rfl
              refine n_cP (nM_in  mS ) (fun x2293_ qx2293_ => ?_)
              refine n_eq (fun c94_ => ?_) (fun c94_ => ?_)
              · skip
                try have i96_ : (a9 + (0 : Int32)).toInt = a9.toInt + (0 : Int32).toInt := i_add (by omega) (by omega)
                refine n_letv (fun x2495_ x2495_v => ?_)
                have x2495_t := congrArg Int32.toInt x2495_v
                try have i98_ : (a10 + (1 : Int32)).toInt = a10.toInt + (1 : Int32).toInt := i_add (by omega) (by omega)
                refine n_letv (fun x2597_ x2597_v => ?_)
                have x2597_t := congrArg Int32.toInt x2597_v
                exact ih a1 a2 a5 a6 a7 a8 x2495_ x2597_ S mS FS (by first | omega | assumption) (by first | omega | assumption) (by first | omega | assumption) (by first | omega | assumption) (by first | omega | assumption) (by first | omega | assumption) (by first | omega | assumption) (by first | omega | assumption) (by omega)
              · skip
                try have i100_ : (a9 + (1 : Int32)).toInt = a9.toInt + (1 : Int32).toInt := i_add (by omega) (by omega)
                refine n_letv (fun x2699_ x2699_v => ?_)
                have x2699_t := congrArg Int32.toInt x2699_v
                try have i102_ : (a10 + (1 : Int32)).toInt = a10.toInt + (1 : Int32).toInt := i_add (by omega) (by omega)
                refine n_letv (fun x27101_ x27101_v => ?_)
                have x27101_t := congrArg Int32.toInt x27101_v
                exact ih a1 a2 a5 a6 a7 a8 x2699_ x27101_ S mS FS (by first | omega | assumption) (by first | omega | assumption) (by first | omega | assumption) (by first | omega | assumption) (by first | omega | assumption) (by first | omega | assumption) (by first | omega | assumption) (by first | omega | assumption) (by omega)
            · skip
              try have i104_ : (a9 + (0 : Int32)).toInt = a9.toInt + (0 : Int32).toInt := i_add (by omega) (by omega)
              refine n_letv (fun x19103_ x19103_v => ?_)
              have x19103_t := congrArg Int32.toInt x19103_v
              try have i106_ : (a10 + (1 : Int32)).toInt = a10.toInt + (1 : Int32).toInt := i_add (by omega) (by omega)
              refine n_letv (fun x20105_ x20105_v => ?_)
              have x20105_t := congrArg Int32.toInt x20105_v
              exact ih a1 a2 a5 a6 a7 a8 x19103_ x20105_ S mS FS (by first | omega | assumption) (by first | omega | assumption) (by first | omega | assumption) (by first | omega | assumption) (by first | omega | assumption) (by first | omega | assumption) (by first | omega | assumption) (by first | omega | assumption) (by omega)
          · skip
            try have i108_ : (a9 + (0 : Int32)).toInt = a9.toInt + (0 : Int32).toInt := i_add (by omega) (by omega)
            refine n_letv (fun x16107_ x16107_v => ?_)
            have x16107_t := congrArg Int32.toInt x16107_v
            try have i110_ : (a10 + (1 : Int32)).toInt = a10.toInt + (1 : Int32).toInt := i_add (by omega) (by omega)
            refine n_letv (fun x17109_ x17109_v => ?_)
            have x17109_t := congrArg Int32.toInt x17109_v
            exact ih a1 a2 a5 a6 a7 a8 x16107_ x17109_ S mS FS (by first | omega | assumption) (by first | omega | assumption) (by first | omega | assumption) (by first | omega | assumption) (by first | omega | assumption) (by first | omega | assumption) (by first | omega | assumption) (by first | omega | assumption) (by omega)

-- gM_checkPlace_122
set_option maxHeartbeats 4000000 in
theorem nM_checkPlace_122 {E : List Nat} {S0 : MS} (hE : ∀ k ∈ [56, 57], k ∈ E) : ∀ (n : Nat) (a1 : Int32) (a2 : Int32) (a3 : Int64) (a5 : Int32) (a6 : Int32) (a7 : Int32) (a8 : Int32) (a9 : Int32) (a10 : Int32) (S : MS), MI S → fM E S0 S → 0 ≤ a1.toInt → a1.toInt ≤ 19 → 0 ≤ a2.toInt → a2.toInt ≤ 39 → 0 ≤ a5.toInt → a5.toInt ≤ 3 → 0 ≤ a10.toInt → a10.toInt ≤ 20 → 20 - a10.toInt < (n : Int) → nJ (NW E S0 (fun (r : Unit) (S' : MS) => True)) (gM_checkPlace_122 n a1 a2 a3 a5 a6 a7 a8 a9 a10 S) := by
  intro n
  induction n with
  | zero => intro a1 a2 a3 a5 a6 a7 a8 a9 a10 S mS FS p0_ p1_ p2_ p3_ p4_ p5_ p6_ p7_ m_; exfalso; omega
  | succ n ih =>
    intro a1 a2 a3 a5 a6 a7 a8 a9 a10 S mS FS p0_ p1_ p2_ p3_ p4_ p5_ p6_ p7_ m_
    unfold gM_checkPlace_122
    have L1_ : (0 : Int32).toInt = 0 := rfl
    have L2_ : (1 : Int32).toInt = 1 := rfl
    have r3_ := mi_f mS 46 rfl
    refine n_let ?_
    refine n_le (fun c4_ => ?_) (fun c4_ => ?_)
    · skip
      exact nM_checkPlace_194  (by first | decide | (intro k q; exact hE k (by revert q; revert k; decide))) _ _ _ _ _ _ _ _ _ _ mS FS (by first | omega | assumption) (by first | omega | assumption) (by first | omega | assumption) (by first | omega | assumption) (by first | omega | assumption) (by first | omega | assumption) (by first | omega | assumption) (by first | omega | assumption) (by simp only [sm_fuel_eq]; omega)
    · skip
      refine n_eq (fun c5_ => ?_) (fun c5_ => ?_)
      · skip
        refine n_cP (nM_isMaking  mS (by first | omega | assumption) (by first | omega | assumption)) (fun x26_ qx26_ => ?_)
        refine n_eq (fun c7_ => ?_) (fun c7_ => ?_)
        · skip
          unfold gM_checkPlace_153
          refine n_eq (fun c8_ => ?_) (fun c8_ => ?_)
          · skip
            refine n_le (fun c9_ => ?_) (fun c9_ => ?_)
            · skip
              try have i11_ : (a10 + (1 : Int32)).toInt = a10.toInt + (1 : Int32).toInt := i_add (by omega) (by omega)
              refine n_letv (fun x210_ x210_v => ?_)
              have x210_t := congrArg Int32.toInt x210_v
              exact ih a1 a2 a3 a5 a6 (0 : Int32) (0 : Int32) a9 x210_ S mS FS (by first | omega | assumption) (by first | omega | assumption) (by first | omega | assumption) (by first | omega | assumption) (by first | omega | assumption) (by first | omega | assumption) (by first | omega | assumption) (by first | omega | assumption) (by omega)
            · skip
              refine n_cP (nM_isMaking  mS (by first | omega | assumption) (by first | omega | assumption)) (fun x312_ qx312_ => ?_)
              refine n_eq (fun c13_ => ?_) (fun c13_ => ?_)
              · skip
                try have i15_ : (a10 + (1 : Int32)).toInt = a10.toInt + (1 : Int32).toInt := i_add (by omega) (by omega)
                refine n_letv (fun x514_ x514_v => ?_)
                have x514_t := congrArg Int32.toInt x514_v
                exact ih a1 a2 a3 a5 a6 (0 : Int32) (0 : Int32) a9 x514_ S mS FS (by first | omega | assumption) (by first | omega | assumption) (by first | omega | assumption) (by first | omega | assumption) (by first | omega | assumption) (by first | omega | assumption) (by first | omega | assumption) (by first | omega | assumption) (by omega)
              · skip
                try have i17_ : (a10 + (1 : Int32)).toInt = a10.toInt + (1 : Int32).toInt := i_add (by omega) (by omega)
                refine n_letv (fun x616_ x616_v => ?_)
                have x616_t := congrArg Int32.toInt x616_v
                exact ih a1 a2 a3 a5 a6 (0 : Int32) (1 : Int32) a9 x616_ S mS FS (by first | omega | assumption) (by first | omega | assumption) (by first | omega | assumption) (by first | omega | assumption) (by first | omega | assumption) (by first | omega | assumption) (by first | omega | assumption) (by first | omega | assumption) (by omega)
          · skip
            try have i19_ : (a10 + (1 : Int32)).toInt = a10.toInt + (1 : Int32).toInt := i_add (by omega) (by omega)
            refine n_letv (fun x118_ x118_v => ?_)
            have x118_t := congrArg Int32.toInt x118_v
            exact ih a1 a2 a3 a5 a6 (0 : Int32) (1 : Int32) a9 x118_ S mS FS (by first | omega | assumption) (by first | omega | assumption) (by first | omega | assumption) (by first | omega | assumption) (by first | omega | assumption) (by first | omega | assumption) (by first | omega | assumption) (by first | omega | assumption) (by omega)
        · skip
          unfold gM_checkPlace_153
          refine n_eq (fun c20_ => ?_) (fun c20_ => ?_)
          · skip
            refine n_le (fun c21_ => ?_) (fun c21_ => ?_)
            · skip
              try have i23_ : (a10 + (1 : Int32)).toInt = a10.toInt + (1 : Int32).toInt := i_add (by omega) (by omega)
              refine n_letv (fun x222_ x222_v => ?_)
              have x222_t := congrArg Int32.toInt x222_v
              exact ih a1 a2 a3 a5 a6 (1 : Int32) (0 : Int32) a9 x222_ S mS FS (by first | omega | assumption) (by first | omega | assumption) (by first | omega | assumption) (by first | omega | assumption) (by first | omega | assumption) (by first | omega | assumption) (by first | omega | assumption) (by first | omega | assumption) (by omega)
            · skip
              refine n_cP (nM_isMaking  mS (by first | omega | assumption) (by first | omega | assumption)) (fun x324_ qx324_ => ?_)
              refine n_eq (fun c25_ => ?_) (fun c25_ => ?_)
              · skip
                try have i27_ : (a10 + (1 : Int32)).toInt = a10.toInt + (1 : Int32).toInt := i_add (by omega) (by omega)
                refine n_letv (fun x526_ x526_v => ?_)
                have x526_t := congrArg Int32.toInt x526_v
                exact ih a1 a2 a3 a5 a6 (1 : Int32) (0 : Int32) a9 x526_ S mS FS (by first | omega | assumption) (by first | omega | assumption) (by first | omega | assumption) (by first | omega | assumption) (by first | omega | assumption) (by first | omega | assumption) (by first | omega | assumption) (by first | omega | assumption) (by omega)
              · skip
                try have i29_ : (a10 + (1 : Int32)).toInt = a10.toInt + (1 : Int32).toInt := i_add (by omega) (by omega)
                refine n_letv (fun x628_ x628_v => ?_)
                have x628_t := congrArg Int32.toInt x628_v
                exact ih a1 a2 a3 a5 a6 (1 : Int32) (1 : Int32) a9 x628_ S mS FS (by first | omega | assumption) (by first | omega | assumption) (by first | omega | assumption) (by first | omega | assumption) (by first | omega | assumption) (by first | omega | assumption) (by first | omega | assumption) (by first | omega | assumption) (by omega)
          · skip
            try have i31_ : (a10 + (1 : Int32)).toInt = a10.toInt + (1 : Int32).toInt := i_add (by omega) (by omega)
            refine n_letv (fun x130_ x130_v => ?_)
            have x130_t := congrArg Int32.toInt x130_v
            exact ih a1 a2 a3 a5 a6 (1 : Int32) (1 : Int32) a9 x130_ S mS FS (by first | omega | assumption) (by first | omega | assumption) (by first | omega | assumption) (by first | omega | assumption) (by first | omega | assumption) (by first | omega | assumption) (by first | omega | assumption) (by first | omega | assumption) (by omega)
      · skip
        unfold gM_checkPlace_153
        refine n_eq (fun c32_ => ?_) (fun c32_ => ?_)
        · skip
          refine n_le (fun c33_ => ?_) (fun c33_ => ?_)
          · skip
            try have i35_ : (a10 + (1 : Int32)).toInt = a10.toInt + (1 : Int32).toInt := i_add (by omega) (by omega)
            refine n_letv (fun x234_ x234_v => ?_)
            have x234_t := congrArg Int32.toInt x234_v
            exact ih a1 a2 a3 a5 a6 (1 : Int32) (0 : Int32) a9 x234_ S mS FS (by first | omega | assumption) (by first | omega | assumption) (by first | omega | assumption) (by first | omega | assumption) (by first | omega | assumption) (by first | omega | assumption) (by first | omega | assumption) (by first | omega | assumption) (by omega)
          · skip
            refine n_cP (nM_isMaking  mS (by first | omega | assumption) (by first | omega | assumption)) (fun x336_ qx336_ => ?_)
            refine n_eq (fun c37_ => ?_) (fun c37_ => ?_)
            · skip
              try have i39_ : (a10 + (1 : Int32)).toInt = a10.toInt + (1 : Int32).toInt := i_add (by omega) (by omega)
              refine n_letv (fun x538_ x538_v => ?_)
              have x538_t := congrArg Int32.toInt x538_v
              exact ih a1 a2 a3 a5 a6 (1 : Int32) (0 : Int32) a9 x538_ S mS FS (by first | omega | assumption) (by first | omega | assumption) (by first | omega | assumption) (by first | omega | assumption) (by first | omega | assumption) (by first | omega | assumption) (by first | omega | assumption) (by first | omega | assumption) (by omega)
            · skip
              try have i41_ : (a10 + (1 : Int32)).toInt = a10.toInt + (1 : Int32).toInt := i_add (by omega) (by omega)
              refine n_letv (fun x640_ x640_v => ?_)
              have x640_t := congrArg Int32.toInt x640_v
              exact ih a1 a2 a3 a5 a6 (1 : Int32) (1 : Int32) a9 x640_ S mS FS (by first | omega | assumption) (by first | omega | assumption) (by first | omega | assumption) (by first | omega | assumption) (by first | omega | assumption) (by first | omega | assumption) (by first | omega | assumption) (by first | omega | assumption) (by omega)
        · skip
          try have i43_ : (a10 + (1 : Int32)).toInt = a10.toInt + (1 : Int32).toInt := i_add (by omega) (by omega)
          refine n_letv (fun x142_ x142_v => ?_)
          have x142_t := congrArg Int32.toInt x142_v
          exact ih a1 a2 a3 a5 a6 (1 : Int32) (1 : Int32) a9 x142_ S mS FS (by first | omega | assumption) (by first | omega | assumption) (by first | omega | assumption) (by first | omega | assumption) (by first | omega | assumption) (by first | omega | assumption) (by first | omega | assumption) (by first | omega | assumption) (by omega)
