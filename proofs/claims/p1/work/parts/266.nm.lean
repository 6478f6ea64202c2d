-- gM_checkPlace
set_option maxHeartbeats 4000000 in
theorem nM_checkPlace {a1 : Int32} {a2 : Int32} {S : MS} (mS : MI S)  (p0_ : 0 ≤ a1.toInt) (p1_ : a1.toInt ≤ 19) (p2_ : 0 ≤ a2.toInt) (p3_ : a2.toInt ≤ 39) : nJ (NW [56, 57] S (fun (r : Unit) (S' : MS) => True)) (gM_checkPlace a1 a2 S) := by
  unfold gM_checkPlace
  have FS := fM_rf [56, 57] S
  have L1_ : (0 : Int32).toInt = 0 := rfl
  have L2_ : (1 : Int32).toInt = 1 := rfl
  refine n_rI (L := 60) mS (by decide) rfl (by omega) (by omega) (fun x13_ x13_e x13_l x13_u => ?_)
  refine n_rI (L := 40) mS (by decide) rfl (by omega) (by omega) (fun x24_ x24_e x24_l x24_u => ?_)
  try have i5_ : (x24_ + (1 : Int32)).toInt = x24_.toInt + (1 : Int32).toInt := i_add (by omega) (by omega)
  refine n_eq (fun c6_ => ?_) (fun c6_ => ?_)
  · skip
    refine n_rI (L := 40) mS (by decide) rfl (by omega) (by omega) (fun x37_ x37_e x37_l x37_u => ?_)
    have q8_ : x37_.toInt = x24_.toInt := by rw [x37_e, x24_e]
    have L9_ : (16 : Int32).toInt = 16 := rfl
    try have i10_ : ((16 : Int32) * a1).toInt = 16 * a1.toInt := i_mul (n := 16) rfl (by omega) (by omega)
    try have i11_ : (((16 : Int32) * a1) + x37_).toInt = ((16 : Int32) * a1).toInt + x37_.toInt := i_add (by omega) (by omega)
    refine n_rJ (L := 960) (by decide) (by omega) (by omega) (fun x412_ x412_e => ?_)
    unfold gM_checkPlace_39
    refine n_rI (L := 40) mS (by decide) rfl (by omega) (by omega) (fun x113_ x113_e x113_l x113_u => ?_)
    refine n_le (fun c14_ => ?_) (fun c14_ => ?_)
    · skip
      have L15_ : (1 : Int64).toInt = 1 := rfl
      have L16_ : (2147483647 : Int64).toInt = 2147483647 := rfl
      refine n_cP (nM_in  mS ) (fun x217_ qx217_ => ?_)
      refine n_eq (fun c18_ => ?_) (fun c18_ => ?_)
      · skip
        have L19_ : (11 : Int32).toInt = 11 := rfl
        refine n_cW FS (nM_fail  mS (by first | omega | assumption)) (by first | decide | (intro k q; exact hE k (by revert q; revert k; decide))) (fun v20_ S21_ mS21_ FS21_ fS21_ qv20_ => ?_)
        exact n_rW mS21_ FS21_ trivial
      · skip
        unfold gM_checkPlace_81
        refine n_le (fun c22_ => ?_) (fun c22_ => ?_)
        · skip
          refine n_cP (nM_placeOf  mS (by first | omega | assumption) (by first | omega | assumption)) (fun x123_ qx123_ => ?_)
          have x123_z := plc_b qx123_
          refine n_lt (fun c24_ => ?_) (fun c24_ => ?_)
          · skip
            unfold gM_checkPlace_102
            refine n_rI (L := 4) mS (by decide) rfl (by omega) (by omega) (fun x125_ x125_e x125_l x125_u => ?_)
            exact nM_checkPlace_122  (by first | decide | (intro k q; exact hE k (by revert q; revert k; decide))) _ _ _ _ _ _ _ _ _ _ _ mS FS (by first | omega | assumption) (by first | omega | assumption) (by first | omega | assumption) (by first | omega | assumption) (by first | omega | assumption) (by first | omega | assumption) (by first | omega | assumption) (by first | omega | assumption) (by simp only [sm_fuel_eq]; omega)
          · skip
            unfold gM_checkPlace_102
            refine n_rI (L := 4) mS (by decide) rfl (by omega) (by omega) (fun x126_ x126_e x126_l x126_u => ?_)
            exact nM_checkPlace_122  (by first | decide | (intro k q; exact hE k (by revert q; revert k; decide))) _ _ _ _ _ _ _ _ _ _ _ mS FS (by first | omega | assumption) (by first | omega | assumption) (by first | omega | assumption) (by first | omega | assumption) (by first | omega | assumption) (by first | omega | assumption) (by first | omega | assumption) (by first | omega | assumption) (by simp only [sm_fuel_eq]; omega)
        · skip
          exact n_rW mS FS trivial
    · skip
      have L27_ : (0 : Int64).toInt = 0 := rfl
      refine n_l0 (fun c28_ => ?_) (fun c28_ => ?_)
      · skip
        unfold gM_checkPlace_81
        refine n_le (fun c29_ => ?_) (fun c29_ => ?_)
        · skip
          refine n_cP (nM_placeOf  mS (by first | omega | assumption) (by first | omega | assumption)) (fun x130_ qx130_ => ?_)
          have x130_z := plc_b qx130_
          refine n_lt (fun c31_ => ?_) (fun c31_ => ?_)
          · skip
            unfold gM_checkPlace_102
            refine n_rI (L := 4) mS (by decide) rfl (by omega) (by omega) (fun x132_ x132_e x132_l x132_u => ?_)
            exact nM_checkPlace_122  (by first | decide | (intro k q; exact hE k (by revert q; revert k; decide))) _ _ _ _ _ _ _ _ _ _ _ mS FS (by first | omega | assumption) (by first | omega | assumption) (by first | omega | assumption) (by first | omega | assumption) (by first | omega | assumption) (by first | omega | assumption) (by first | omega | assumption) (by first | omega | assumption) (by simp only [sm_fuel_eq]; omega)
          · skip
            unfold gM_checkPlace_102
            refine n_rI (L := 4) mS (by decide) rfl (by omega) (by omega) (fun x133_ x133_e x133_l x133_u => ?_)
            exact nM_checkPlace_122  (by first | decide | (intro k q; exact hE k (by revert q; revert k; decide))) _ _ _ _ _ _ _ _ _ _ _ mS FS (by first | omega | assumption) (by first | omega | assumption) (by first | omega | assumption) (by first | omega | assumption) (by first | omega | assumption) (by first | omega | assumption) (by first | omega | assumption) (by first | omega | assumption) (by simp only [sm_fuel_eq]; omega)
        · skip
          exact n_rW mS FS trivial
      · skip
        have L34_ : (11 : Int32).toInt = 11 := rfl
        refine n_cW FS (nM_fail  mS (by first | omega | assumption)) (by first | decide | (intro k q; exact hE k (by revert q; revert k; decide))) (fun v35_ S36_ mS36_ FS36_ fS36_ qv35_ => ?_)
        exact n_rW mS36_ FS36_ trivial
  · skip
    have L37_ : (-1 : Int64).toInt = -1 := rfl
    unfold gM_checkPlace_39
    refine n_rI (L := 40) mS (by decide) rfl (by omega) (by omega) (fun x138_ x138_e x138_l x138_u => ?_)
    refine n_le (fun c39_ => ?_) (fun c39_ => ?_)
    · skip
      have L40_ : (1 : Int64).toInt = 1 := rfl
      have L41_ : (2147483647 : Int64).toInt = 2147483647 := rfl
      refine n_cP (nM_in  mS ) (fun x242_ qx242_ => ?_)
      refine n_eq (fun c43_ => ?_) (fun c43_ => ?_)
      · skip
        have L44_ : (11 : Int32).toInt = 11 := rfl
        refine n_cW FS (nM_fail  mS (by first | omega | assumption)) (by first | decide | (intro k q; exact hE k (by revert q; revert k; decide))) (fun v45_ S46_ mS46_ FS46_ fS46_ qv45_ => ?_)
        exact n_rW mS46_ FS46_ trivial
      · skip
        unfold gM_checkPlace_81
        refine n_le (fun c47_ => ?_) (fun c47_ => ?_)
        · skip
          refine n_cP (nM_placeOf  mS (by first | omega | assumption) (by first | omega | assumption)) (fun x148_ qx148_ => ?_)
          have x148_z := plc_b qx148_
          refine n_lt (fun c49_ => ?_) (fun c49_ => ?_)
          · skip
            unfold gM_checkPlace_102
            refine n_rI (L := 4) mS (by decide) rfl (by omega) (by omega) (fun x150_ x150_e x150_l x150_u => ?_)
            exact nM_checkPlace_122  (by first | decide | (intro k q; exact hE k (by revert q; revert k; decide))) _ _ _ _ _ _ _ _ _ _ _ mS FS (by first | omega | assumption) (by first | omega | assumption) (by first | omega | assumption) (by first | omega | assumption) (by first | omega | assumption) (by first | omega | assumption) (by first | omega | assumption) (by first | omega | assumption) (by simp only [sm_fuel_eq]; omega)
          · skip
            unfold gM_checkPlace_102
            refine n_rI (L := 4) mS (by decide) rfl (by omega) (by omega) (fun x151_ x151_e x151_l x151_u => ?_)
            exact nM_checkPlace_122  (by first | decide | (intro k q; exact hE k (by revert q; revert k; decide))) _ _ _ _ _ _ _ _ _ _ _ mS FS (by first | omega | assumption) (by first | omega | assumption) (by first | omega | assumption) (by first | omega | assumption) (by first | omega | assumption) (by first | omega | assumption) (by first | omega | assumption) (by first | omega | assumption) (by simp only [sm_fuel_eq]; omega)
        · skip
          exact n_rW mS FS trivial
    · skip
      have L52_ : (0 : Int64).toInt = 0 := rfl
      refine n_l0 (fun c53_ => ?_) (fun c53_ => ?_)
      · skip
        unfold gM_checkPlace_81
        refine n_le (fun c54_ => ?_) (fun c54_ => ?_)
        · skip
          refine n_cP (nM_placeOf  mS (by first | omega | assumption) (by first | omega | assumption)) (fun x155_ qx155_ => ?_)
          have x155_z := plc_b qx155_
          refine n_lt (fun c56_ => ?_) (fun c56_ => ?_)
          · skip
            unfold gM_checkPlace_102
            refine n_rI (L := 4) mS (by decide) rfl (by omega) (by omega) (fun x157_ x157_e x157_l x157_u => ?_)
            exact nM_checkPlace_122  (by first | decide | (intro k q; exact hE k (by revert q; revert k; decide))) _ _ _ _ _ _ _ _ _ _ _ mS FS (by first | omega | assumption) (by first | omega | assumption) (by first | omega | assumption) (by first | omega | assumption) (by first | omega | assumption) (by first | omega | assumption) (by first | omega | assumption) (by first | omega | assumption) (by simp only [sm_fuel_eq]; omega)
          · skip
            unfold gM_checkPlace_102
            refine n_rI (L := 4) mS (by decide) rfl (by omega) (by omega) (fun x158_ x158_e x158_l x158_u => ?_)
            exact nM_checkPlace_122  (by first | decide | (intro k q; exact hE k (by revert q; revert k; decide))) _ _ _ _ _ _ _ _ _ _ _ mS FS (by first | omega | assumption) (by first | omega | assumption) (by first | omega | assumption) (by first | omega | assumption) (by first | omega | assumption) (by first | omega | assumption) (by first | omega | assumption) (by first | omega | assumption) (by simp only [sm_fuel_eq]; omega)
        · skip
          exact n_rW mS FS trivial
      · skip
        have L59_ : (11 : Int32).toInt = 11 := rfl
        refine n_cW FS (nM_fail  mS (by first | omega | assumption)) (by first | decide | (intro k q; exact hE k (by revert q; revert k; decide))) (fun v60_ S61_ mS61_ FS61_ fS61_ qv60_ => ?_)
        exact n_rW mS61_ FS61_ trivial

-- gM_check
set_option maxHeartbeats 4000000 in
theorem nM_check {a1 : Int32} {S : MS} (mS : MI S)  (p0_ : 0 ≤ a1.toInt) (p1_ : a1.toInt ≤ 19) (p2_ : 0 ≤ (S.1 49).toInt) : nJ (NW [56, 57] S (fun (r : Unit) (S' : MS) => True)) (gM_check a1 S) := by
  unfold gM_check
  have FS := fM_rf [56, 57] S
  have L1_ : (0 : Int32).toInt = 0 := rfl
  have L2_ : (1 : Int32).toInt = 1 := rfl
  refine n_rI (L := 60) mS (by decide) rfl (by omega) (by omega) (fun x13_ x13_e x13_l x13_u => ?_)
  have L4_ : (16 : Int32).toInt = 16 := rfl
  try have i5_ : ((16 : Int32) * a1).toInt = 16 * a1.toInt := i_mul (n := 16) rfl (by omega) (by omega)
  have L6_ : (2 : Int32).toInt = 2 := rfl
  refine n_cP (nM_objectOf (L_a1 := 960) mS (by decide) (by first | omega | assumption) (by first | omega | assumption) (by first | omega | assumption) (by first | omega | assumption) (by first | omega | assumption)) (fun x27_ qx27_ => ?_)
  refine n_rI (L := 60) mS (by decide) rfl (by omega) (by omega) (fun x48_ x48_e x48_l x48_u => ?_)
  have q9_ : x48_.toInt = x13_.toInt := by rw [x48_e, x13_e]
  have r10_ := mi_f mS 49 rfl
  refine n_cP (nM_inView (L_a1 := 960) mS (by decide) (by first | omega | assumption) (by first | omega | assumption) (by first | omega | assumption) (by first | omega | assumption) (by first | omega | assumption) (by first | omega | assumption)) (fun x511_ qx511_ => ?_)
  refine n_eq (fun c12_ => ?_) (fun c12_ => ?_)
  · skip
    have L13_ : (6 : Int32).toInt = 6 := rfl
    refine n_cW FS (nM_fail  mS (by first | omega | assumption)) (by first | decide | (intro k q; exact hE k (by revert q; revert k; decide))) (fun v14_ S15_ mS15_ FS15_ fS15_ qv14_ => ?_)
    exact n_rW mS15_ FS15_ trivial
  · skip
    refine n_le (fun c16_ => ?_) (fun c16_ => ?_)
    · skip
      refine n_rI (L := 40) mS (by decide) rfl (by omega) (by omega) (fun x717_ x717_e x717_l x717_u => ?_)
      refine n_rJ (L := 60) (by decide) (by omega) (by omega) (fun x818_ x818_e => ?_)
      refine n_rI (L := 60) mS (by decide) rfl (by omega) (by omega) (fun x919_ x919_e x919_l x919_u => ?_)
      refine n_eq (fun c20_ => ?_) (fun c20_ => ?_)
      · skip
        have L21_ : (4 : Int32).toInt = 4 := rfl
        refine n_eq (fun c22_ => ?_) (fun c22_ => ?_)
        · skip
          refine n_rI (L := 60) mS (by decide) rfl (by omega) (by omega) (fun x1023_ x1023_e x1023_l x1023_u => ?_)
          refine n_rJ (L := 40) (by decide) (by omega) (by omega) (fun x1124_ x1124_e => ?_)
          refine n_rJ (L := 40) (by decide) (by omega) (by omega) (fun x1225_ x1225_e => ?_)
          have j26_ := Int32.toInt_toInt64 (x1023_)
          refine n_cP (nM_in  mS ) (fun x1327_ qx1327_ => ?_)
          refine n_eq (fun c28_ => ?_) (fun c28_ => ?_)
          · skip
            have L29_ : (8 : Int32).toInt = 8 := rfl
            refine n_cW FS (nM_fail  mS (by first | omega | assumption)) (by first | decide | (intro k q; exact hE k (by revert q; revert k; decide))) (fun v30_ S31_ mS31_ FS31_ fS31_ qv30_ => ?_)
            exact n_rW mS31_ FS31_ trivial
          · skip
            unfold gM_check_136
            refine n_rI (L := 40) mS (by decide) rfl (by omega) (by omega) (fun x132_ x132_e x132_l x132_u => ?_)
            refine n_eq (fun c33_ => ?_) (fun c33_ => ?_)
            · skip
              refine n_eq (fun c34_ => ?_) (fun c34_ => ?_)
              · skip
                unfold gM_check_195
                refine n_rJ (L := 40) (by decide) (by omega) (by omega) (fun x135_ x135_e => ?_)
                refine n_rJ (L := 40) (by decide) (by omega) (by omega) (fun x236_ x236_e => ?_)
                refine n_cP (nM_in  mS ) (fun x337_ qx337_ => ?_)
                refine n_eq (fun c38_ => ?_) (fun c38_ => ?_)
                · skip
                  have L39_ : (10 : Int32).toInt = 10 := rfl
                  refine n_cW FS (nM_fail  mS (by first | omega | assumption)) (by first | decide | (intro k q; exact hE k (by revert q; revert k; decide))) (fun v40_ S41_ mS41_ FS41_ fS41_ qv40_ => ?_)
                  exact n_rW mS41_ FS41_ trivial
                · skip
                  refine n_cW FS (nM_checkPlace  mS (by first | omega | assumption) (by first | omega | assumption) (by first | omega | assumption) (by first | omega | assumption)) (by first | decide | (intro k q; exact hE k (by revert q; revert k; decide))) (fun v42_ S43_ mS43_ FS43_ fS43_ qv42_ => ?_)
                  exact n_rW mS43_ FS43_ trivial
              · skip
                have L44_ : (66 : Int32).toInt = 66 := rfl
                refine n_eq (fun c45_ => ?_) (fun c45_ => ?_)
                · skip
                  unfold gM_check_195
                  refine n_rJ (L := 40) (by decide) (by omega) (by omega) (fun x146_ x146_e => ?_)
                  refine n_rJ (L := 40) (by decide) (by omega) (by omega) (fun x247_ x247_e => ?_)
                  refine n_cP (nM_in  mS ) (fun x348_ qx348_ => ?_)
                  refine n_eq (fun c49_ => ?_) (fun c49_ => ?_)
                  · skip
                    have L50_ : (10 : Int32).toInt = 10 := rfl
                    refine n_cW FS (nM_fail  mS (by first | omega | assumption)) (by first | decide | (intro k q; exact hE k (by revert q; revert k; decide))) (fun v51_ S52_ mS52_ FS52_ fS52_ qv51_ => ?_)
                    exact n_rW mS52_ FS52_ trivial
                  · skip
                    refine n_cW FS (nM_checkPlace  mS (by first | omega | assumption) (by first | omega | assumption) (by first | omega | assumption) (by first | omega | assumption)) (by first | decide | (intro k q; exact hE k (by revert q; revert k; decide))) (fun v53_ S54_ mS54_ FS54_ fS54_ qv53_ => ?_)
                    exact n_rW mS54_ FS54_ trivial
                · skip
                  have L55_ : (67 : Int32).toInt = 67 := rfl
                  refine n_eq (fun c56_ => ?_) (fun c56_ => ?_)
                  · skip
                    unfold gM_check_195
                    refine n_rJ (L := 40) (by decide) (by omega) (by omega) (fun x157_ x157_e => ?_)
                    refine n_rJ (L := 40) (by decide) (by omega) (by omega) (fun x258_ x258_e => ?_)
                    refine n_cP (nM_in  mS ) (fun x359_ qx359_ => ?_)
                    refine n_eq (fun c60_ => ?_) (fun c60_ => ?_)
                    · skip
                      have L61_ : (10 : Int32).toInt = 10 := rfl
                      refine n_cW FS (nM_fail  mS (by first | omega | assumption)) (by first | decide | (intro k q; exact hE k (by revert q; revert k; decide))) (fun v62_ S63_ mS63_ FS63_ fS63_ qv62_ => ?_)
                      exact n_rW mS63_ FS63_ trivial
                    · skip
                      refine n_cW FS (nM_checkPlace  mS (by first | omega | assumption) (by first | omega | assumption) (by first | omega | assumption) (by first | omega | assumption)) (by first | decide | (intro k q; exact hE k (by revert q; revert k; decide))) (fun v64_ S65_ mS65_ FS65_ fS65_ qv64_ => ?_)
                      exact n_rW mS65_ FS65_ trivial
                  · skip
                    refine n_cW FS (nM_checkPlace  mS (by first | omega | assumption) (by first | omega | assumption) (by first | omega | assumption) (by first | omega | assumption)) (by first | decide | (intro k q; exact hE k (by revert q; revert k; decide))) (fun v66_ S67_ mS67_ FS67_ fS67_ qv66_ => ?_)
                    exact n_rW mS67_ FS67_ trivial
            · skip
              have L68_ : (1 : Int64).toInt = 1 := rfl
              refine n_l0 (fun c69_ => ?_) (fun c69_ => ?_)
              · skip
                refine n_cW FS (nM_checkPlace  mS (by first | omega | assumption) (by first | omega | assumption) (by first | omega | assumption) (by first | omega | assumption)) (by first | decide | (intro k q; exact hE k (by revert q; revert k; decide))) (fun v70_ S71_ mS71_ FS71_ fS71_ qv70_ => ?_)
                exact n_rW mS71_ FS71_ trivial
              · skip
                have L72_ : (2 : Int64).toInt = 2 := rfl
                refine n_l0 (fun c73_ => ?_) (fun c73_ => ?_)
                · skip
                  refine n_cW FS (nM_checkPlace  mS (by first | omega | assumption) (by first | omega | assumption) (by first | omega | assumption) (by first | omega | assumption)) (by first | decide | (intro k q; exact hE k (by revert q; revert k; decide))) (fun v74_ S75_ mS75_ FS75_ fS75_ qv74_ => ?_)
                  exact n_rW mS75_ FS75_ trivial
                · skip
                  have L76_ : (4 : Int64).toInt = 4 := rfl
                  have L77_ : (6 : Int64).toInt = 6 := rfl
                  refine n_cP (nM_in  mS ) (fun x878_ qx878_ => ?_)
                  refine n_eq (fun c79_ => ?_) (fun c79_ => ?_)
                  · skip
                    have L80_ : (10 : Int32).toInt = 10 := rfl
                    refine n_cW FS (nM_fail  mS (by first | omega | assumption)) (by first | decide | (intro k q; exact hE k (by revert q; revert k; decide))) (fun v81_ S82_ mS82_ FS82_ fS82_ qv81_ => ?_)
                    exact n_rW mS82_ FS82_ trivial
                  · skip
                    refine n_cW FS (nM_checkPlace  mS (by first | omega | assumption) (by first | omega | assumption) (by first | omega | assumption) (by first | omega | assumption)) (by first | decide | (intro k q; exact hE k (by revert q; revert k; decide))) (fun v83_ S84_ mS84_ FS84_ fS84_ qv83_ => ?_)
                    exact n_rW mS84_ FS84_ trivial
        · skip
          unfold gM_check_136
          refine n_rI (L := 40) mS (by decide) rfl (by omega) (by omega) (fun x185_ x185_e x185_l x185_u => ?_)
          refine n_eq (fun c86_ => ?_) (fun c86_ => ?_)
          · skip
            refine n_eq (fun c87_ => ?_) (fun c87_ => ?_)
            · skip
              unfold gM_check_195
              refine n_rJ (L := 40) (by decide) (by omega) (by omega) (fun x188_ x188_e => ?_)
              refine n_rJ (L := 40) (by decide) (by omega) (by omega) (fun x289_ x289_e => ?_)
              refine n_cP (nM_in  mS ) (fun x390_ qx390_ => ?_)
              refine n_eq (fun c91_ => ?_) (fun c91_ => ?_)
              · skip
                have L92_ : (10 : Int32).toInt = 10 := rfl
                refine n_cW FS (nM_fail  mS (by first | omega | assumption)) (by first | decide | (intro k q; exact hE k (by revert q; revert k; decide))) (fun v93_ S94_ mS94_ FS94_ fS94_ qv93_ => ?_)
                exact n_rW mS94_ FS94_ trivial
              · skip
                refine n_cW FS (nM_checkPlace  mS (by first | omega | assumption) (by first | omega | assumption) (by first | omega | assumption) (by first | omega | assumption)) (by first | decide | (intro k q; exact hE k (by revert q; revert k; decide))) (fun v95_ S96_ mS96_ FS96_ fS96_ qv95_ => ?_)
                exact n_rW mS96_ FS96_ trivial
            · skip
              have L97_ : (66 : Int32).toInt = 66 := rfl
              refine n_eq (fun c98_ => ?_) (fun c98_ => ?_)
              · skip
                unfold gM_check_195
                refine n_rJ (L := 40) (by decide) (by omega) (by omega) (fun x199_ x199_e => ?_)
                refine n_rJ (L := 40) (by decide) (by omega) (by omega) (fun x2100_ x2100_e => ?_)
                refine n_cP (nM_in  mS ) (fun x3101_ qx3101_ => ?_)
                refine n_eq (fun c102_ => ?_) (fun c102_ => ?_)
                · skip
                  have L103_ : (10 : Int32).toInt = 10 := rfl
                  refine n_cW FS (nM_fail  mS (by first | omega | assumption)) (by first | decide | (intro k q; exact hE k (by revert q; revert k; decide))) (fun v104_ S105_ mS105_ FS105_ fS105_ qv104_ => ?_)
                  exact n_rW mS105_ FS105_ trivial
                · skip
                  refine n_cW FS (nM_checkPlace  mS (by first | omega | assumption) (by first | omega | assumption) (by first | omega | assumption) (by first | omega | assumption)) (by first | decide | (intro k q; exact hE k (by revert q; revert k; decide))) (fun v106_ S107_ mS107_ FS107_ fS107_ qv106_ => ?_)
                  exact n_rW mS107_ FS107_ trivial
              · skip
                have L108_ : (67 : Int32).toInt = 67 := rfl
                refine n_eq (fun c109_ => ?_) (fun c109_ => ?_)
                · skip
                  unfold gM_check_195
                  refine n_rJ (L := 40) (by decide) (by omega) (by omega) (fun x1110_ x1110_e => ?_)
                  refine n_rJ (L := 40) (by decide) (by omega) (by omega) (fun x2111_ x2111_e => ?_)
                  refine n_cP (nM_in  mS ) (fun x3112_ qx3112_ => ?_)
                  refine n_eq (fun c113_ => ?_) (fun c113_ => ?_)
                  · skip
                    have L114_ : (10 : Int32).toInt = 10 := rfl
                    refine n_cW FS (nM_fail  mS (by first | omega | assumption)) (by first | decide | (intro k q; exact hE k (by revert q; revert k; decide))) (fun v115_ S116_ mS116_ FS116_ fS116_ qv115_ => ?_)
                    exact n_rW mS116_ FS116_ trivial
                  · skip
                    refine n_cW FS (nM_checkPlace  mS (by first | omega | assumption) (by first | omega | assumption) (by first | omega | assumption) (by first | omega | assumption)) (by first | decide | (intro k q; exact hE k (by revert q; revert k; decide))) (fun v117_ S118_ mS118_ FS118_ fS118_ qv117_ => ?_)
                    exact n_rW mS118_ FS118_ trivial
                · skip
                  refine n_cW FS (nM_checkPlace  mS (by first | omega | assumption) (by first | omega | assumption) (by first | omega | assumption) (by first | omega | assumption)) (by first | decide | (intro k q; exact hE k (by revert q; revert k; decide))) (fun v119_ S120_ mS120_ FS120_ fS120_ qv119_ => ?_)
                  exact n_rW mS120_ FS120_ trivial
          · skip
            have L121_ : (1 : Int64).toInt = 1 := rfl
            refine n_l0 (fun c122_ => ?_) (fun c122_ => ?_)
            · skip
              refine n_cW FS (nM_checkPlace  mS (by first | omega | assumption) (by first | omega | assumption) (by first | omega | assumption) (by first | omega | assumption)) (by first | decide | (intro k q; exact hE k (by revert q; revert k; decide))) (fun v123_ S124_ mS124_ FS124_ fS124_ qv123_ => ?_)
              exact n_rW mS124_ FS124_ trivial
            · skip
              have L125_ : (2 : Int64).toInt = 2 := rfl
              refine n_l0 (fun c126_ => ?_) (fun c126_ => ?_)
              · skip
                refine n_cW FS (nM_checkPlace  mS (by first | omega | assumption) (by first | omega | assumption) (by first | omega | assumption) (by first | omega | assumption)) (by first | decide | (intro k q; exact hE k (by revert q; revert k; decide))) (fun v127_ S128_ mS128_ FS128_ fS128_ qv127_ => ?_)
                exact n_rW mS128_ FS128_ trivial
              · skip
                have L129_ : (4 : Int64).toInt = 4 := rfl
                have L130_ : (6 : Int64).toInt = 6 := rfl
                refine n_cP (nM_in  mS ) (fun x8131_ qx8131_ => ?_)
                refine n_eq (fun c132_ => ?_) (fun c132_ => ?_)
                · skip
                  have L133_ : (10 : Int32).toInt = 10 := rfl
                  refine n_cW FS (nM_fail  mS (by first | omega | assumption)) (by first | decide | (intro k q; exact hE k (by revert q; revert k; decide))) (fun v134_ S135_ mS135_ FS135_ fS135_ qv134_ => ?_)
                  exact n_rW mS135_ FS135_ trivial
                · skip
                  refine n_cW FS (nM_checkPlace  mS (by first | omega | assumption) (by first | omega | assumption) (by first | omega | assumption) (by first | omega | assumption)) (by first | decide | (intro k q; exact hE k (by revert q; revert k; decide))) (fun v136_ S137_ mS137_ FS137_ fS137_ qv136_ => ?_)
                  exact n_rW mS137_ FS137_ trivial
      · skip
        have L138_ : (7 : Int32).toInt = 7 := rfl
        refine n_cW FS (nM_fail  mS (by first | omega | assumption)) (by first | decide | (intro k q; exact hE k (by revert q; revert k; decide))) (fun v139_ S140_ mS140_ FS140_ fS140_ qv139_ => ?_)
        exact n_rW mS140_ FS140_ trivial
    · skip
      have L141_ : (17 : Int32).toInt = 17 := rfl
      refine n_cW FS (nM_fail  mS (by first | omega | assumption)) (by first | decide | (intro k q; exact hE k (by revert q; revert k; decide))) (fun v142_ S143_ mS143_ FS143_ fS143_ qv142_ => ?_)
      exact n_rW mS143_ FS143_ trivial
