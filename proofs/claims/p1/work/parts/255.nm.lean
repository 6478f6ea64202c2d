-- gM_readRow
set_option maxHeartbeats 4000000 in
theorem nM_readRow {a1 : Int32} {S : MS} (mS : MI S)  (p0_ : 0 ≤ a1.toInt) (p1_ : a1.toInt ≤ 1200) (p2_ : (S.1 46).toInt ≤ 19) : nJ (NW [36, 37, 38, 39, 40, 41, 42, 43, 44, 45, 46, 58] S (fun (r : Unit) (S' : MS) => (S'.1 46).toInt = (S.1 46).toInt + 1)) (gM_readRow a1 S) := by
  unfold gM_readRow
  have FS := fM_rf [36, 37, 38, 39, 40, 41, 42, 43, 44, 45, 46, 58] S
  have L1_ : (0 : Int32).toInt = 0 := rfl
  have L2_ : (1 : Int32).toInt = 1 := rfl
  have L3_ : (48 : Int32).toInt = 48 := rfl
  refine n_cW FS (nM_field  mS (by first | omega | assumption) (by first | omega | assumption)) (by first | decide | (intro k q; exact hE k (by revert q; revert k; decide))) (fun x14_ S5_ mS5_ FS5_ fS5_ qx14_ => ?_)
  have q6_ := congrArg Int32.toInt (fS5_.1 46 (by decide))
  have r7_ := mi_f mS5_ 44 rfl
  have r8_ := mi_f mS5_ 45 rfl
  refine n_let ?_
  refine n_eq (fun c9_ => ?_) (fun c9_ => ?_)
  · skip
    have L10_ : (6 : Int32).toInt = 6 := rfl
    refine n_cW FS5_ (nM_field  mS5_ (by first | omega | assumption) (by first | omega | assumption)) (by first | decide | (intro k q; exact hE k (by revert q; revert k; decide))) (fun x511_ S12_ mS12_ FS12_ fS12_ qx511_ => ?_)
    have q13_ := congrArg Int32.toInt (fS12_.1 46 (by decide))
    have r14_ := mi_f mS12_ 44 rfl
    have r15_ := mi_f mS12_ 45 rfl
    unfold gM_readRow_29
    have r16_ := mi_f mS12_ 46 rfl
    refine n_let ?_
    refine n_let ?_
    refine n_eq (fun c17_ => ?_) (fun c17_ => ?_)
    · skip
      have L18_ : (16 : Int32).toInt = 16 := rfl
      try have i19_ : ((16 : Int32) * (S12_.1 46)).toInt = 16 * (S12_.1 46).toInt := i_mul (n := 16) rfl (by omega) (by omega)
      refine n_cW FS12_ (nM_readName  mS12_ (by decide) (by first | decide | exact hE _ (by decide)) (by first | omega | assumption) (by first | omega | assumption) (by first | omega | assumption) (by first | omega | assumption)) (by first | decide | (intro k q; exact hE k (by revert q; revert k; decide))) (fun x320_ S21_ mS21_ FS21_ fS21_ qx320_ => ?_)
      have q22_ := congrArg Int32.toInt (fS21_.1 46 (by decide))
      refine n_wI (L := 60) mS21_ FS21_ (by first | decide | exact hE _ (by decide) | simp) (by decide) (by decide) rfl (by omega) (by omega) (by omega) (by omega) (fun S23_ mS23_ FS23_ gS23_ hS23_ kS23_ => ?_)
      have q24_ := congrArg Int32.toInt (congrFun gS23_ 44)
      have q25_ := congrArg Int32.toInt (congrFun gS23_ 45)
      have q26_ := congrArg Int32.toInt (congrFun gS23_ 46)
      unfold gM_readRow_64
      have r27_ := mi_f mS23_ 45 rfl
      refine n_let ?_
      refine n_eq (fun c28_ => ?_) (fun c28_ => ?_)
      · skip
        refine n_cW FS23_ (nM_readValue  mS23_ (by first | omega | assumption) (by first | omega | assumption) (by first | omega | assumption) (by first | omega | assumption)) (by first | decide | (intro k q; exact hE k (by revert q; revert k; decide))) (fun v29_ S30_ mS30_ FS30_ fS30_ qv29_ => ?_)
        have q31_ := congrArg Int32.toInt (fS30_.1 46 (by decide))
        unfold gM_readRow_78
        have r32_ := mi_f mS30_ 45 rfl
        refine n_let ?_
        refine n_eq (fun c33_ => ?_) (fun c33_ => ?_)
        · skip
          have r34_ := mi_f mS30_ 44 rfl
          refine n_let ?_
          refine n_eq (fun c35_ => ?_) (fun c35_ => ?_)
          · skip
            have r36_ := mi_f mS30_ 46 rfl
            refine n_let ?_
            try have i37_ : ((S30_.1 46) + (1 : Int32)).toInt = (S30_.1 46).toInt + (1 : Int32).toInt := i_add (by omega) (by omega)
            refine n_sI mS30_ FS30_ (by first | decide | exact hE _ (by decide) | simp) rfl (by omega) (by omega) (fun S38_ mS38_ FS38_ vS38_ gS38_ hS38_ => ?_)
            have q39_ := congrArg Int32.toInt vS38_
            have r40_ := mi_f mS38_ 46 rfl
            exact n_rW mS38_ FS38_ (by omega)
          · skip
            refine n_sI mS30_ FS30_ (by first | decide | exact hE _ (by decide) | simp) rfl (by omega) (by omega) (fun S41_ mS41_ FS41_ vS41_ gS41_ hS41_ => ?_)
            have q42_ := congrArg Int32.toInt (gS41_ 46 (by decide))
            have r43_ := mi_f mS41_ 46 rfl
            refine n_let ?_
            try have i44_ : ((S41_.1 46) + (1 : Int32)).toInt = (S41_.1 46).toInt + (1 : Int32).toInt := i_add (by omega) (by omega)
            refine n_sI mS41_ FS41_ (by first | decide | exact hE _ (by decide) | simp) rfl (by omega) (by omega) (fun S45_ mS45_ FS45_ vS45_ gS45_ hS45_ => ?_)
            have q46_ := congrArg Int32.toInt vS45_
            have r47_ := mi_f mS45_ 46 rfl
            exact n_rW mS45_ FS45_ (by omega)
        · skip
          have r48_ := mi_f mS30_ 46 rfl
          refine n_let ?_
          try have i49_ : ((S30_.1 46) + (1 : Int32)).toInt = (S30_.1 46).toInt + (1 : Int32).toInt := i_add (by omega) (by omega)
          refine n_sI mS30_ FS30_ (by first | decide | exact hE _ (by decide) | simp) rfl (by omega) (by omega) (fun S50_ mS50_ FS50_ vS50_ gS50_ hS50_ => ?_)
          have q51_ := congrArg Int32.toInt vS50_
          have r52_ := mi_f mS50_ 46 rfl
          exact n_rW mS50_ FS50_ (by omega)
      · skip
        unfold gM_readRow_78
        refine n_let ?_
        refine n_eq (fun c53_ => ?_) (fun c53_ => ?_)
        · skip
          have r54_ := mi_f mS23_ 44 rfl
          refine n_let ?_
          refine n_eq (fun c55_ => ?_) (fun c55_ => ?_)
          · skip
            have r56_ := mi_f mS23_ 46 rfl
            refine n_let ?_
            try have i57_ : ((S23_.1 46) + (1 : Int32)).toInt = (S23_.1 46).toInt + (1 : Int32).toInt := i_add (by omega) (by omega)
            refine n_sI mS23_ FS23_ (by first | decide | exact hE _ (by decide) | simp) rfl (by omega) (by omega) (fun S58_ mS58_ FS58_ vS58_ gS58_ hS58_ => ?_)
            have q59_ := congrArg Int32.toInt vS58_
            have r60_ := mi_f mS58_ 46 rfl
            exact n_rW mS58_ FS58_ (by omega)
          · skip
            refine n_sI mS23_ FS23_ (by first | decide | exact hE _ (by decide) | simp) rfl (by omega) (by omega) (fun S61_ mS61_ FS61_ vS61_ gS61_ hS61_ => ?_)
            have q62_ := congrArg Int32.toInt (gS61_ 46 (by decide))
            have r63_ := mi_f mS61_ 46 rfl
            refine n_let ?_
            try have i64_ : ((S61_.1 46) + (1 : Int32)).toInt = (S61_.1 46).toInt + (1 : Int32).toInt := i_add (by omega) (by omega)
            refine n_sI mS61_ FS61_ (by first | decide | exact hE _ (by decide) | simp) rfl (by omega) (by omega) (fun S65_ mS65_ FS65_ vS65_ gS65_ hS65_ => ?_)
            have q66_ := congrArg Int32.toInt vS65_
            have r67_ := mi_f mS65_ 46 rfl
            exact n_rW mS65_ FS65_ (by omega)
        · skip
          have r68_ := mi_f mS23_ 46 rfl
          refine n_let ?_
          try have i69_ : ((S23_.1 46) + (1 : Int32)).toInt = (S23_.1 46).toInt + (1 : Int32).toInt := i_add (by omega) (by omega)
          refine n_sI mS23_ FS23_ (by first | decide | exact hE _ (by decide) | simp) rfl (by omega) (by omega) (fun S70_ mS70_ FS70_ vS70_ gS70_ hS70_ => ?_)
          have q71_ := congrArg Int32.toInt vS70_
          have r72_ := mi_f mS70_ 46 rfl
          exact n_rW mS70_ FS70_ (by omega)
    · skip
      unfold gM_readRow_64
      refine n_let ?_
      refine n_eq (fun c73_ => ?_) (fun c73_ => ?_)
      · skip
        refine n_cW FS12_ (nM_readValue  mS12_ (by first | omega | assumption) (by first | omega | assumption) (by first | omega | assumption) (by first | omega | assumption)) (by first | decide | (intro k q; exact hE k (by revert q; revert k; decide))) (fun v74_ S75_ mS75_ FS75_ fS75_ qv74_ => ?_)
        have q76_ := congrArg Int32.toInt (fS75_.1 46 (by decide))
        unfold gM_readRow_78
        have r77_ := mi_f mS75_ 45 rfl
        refine n_let ?_
        refine n_eq (fun c78_ => ?_) (fun c78_ => ?_)
        · skip
          have r79_ := mi_f mS75_ 44 rfl
          refine n_let ?_
          refine n_eq (fun c80_ => ?_) (fun c80_ => ?_)
          · skip
            have r81_ := mi_f mS75_ 46 rfl
            refine n_let ?_
            try have i82_ : ((S75_.1 46) + (1 : Int32)).toInt = (S75_.1 46).toInt + (1 : Int32).toInt := i_add (by omega) (by omega)
            refine n_sI mS75_ FS75_ (by first | decide | exact hE _ (by decide) | simp) rfl (by omega) (by omega) (fun S83_ mS83_ FS83_ vS83_ gS83_ hS83_ => ?_)
            have q84_ := congrArg Int32.toInt vS83_
            have r85_ := mi_f mS83_ 46 rfl
            exact n_rW mS83_ FS83_ (by omega)
          · skip
            refine n_sI mS75_ FS75_ (by first | decide | exact hE _ (by decide) | simp) rfl (by omega) (by omega) (fun S86_ mS86_ FS86_ vS86_ gS86_ hS86_ => ?_)
            have q87_ := congrArg Int32.toInt (gS86_ 46 (by decide))
            have r88_ := mi_f mS86_ 46 rfl
            refine n_let ?_
            try have i89_ : ((S86_.1 46) + (1 : Int32)).toInt = (S86_.1 46).toInt + (1 : Int32).toInt := i_add (by omega) (by omega)
            refine n_sI mS86_ FS86_ (by first | decide | exact hE _ (by decide) | simp) rfl (by omega) (by omega) (fun S90_ mS90_ FS90_ vS90_ gS90_ hS90_ => ?_)
            have q91_ := congrArg Int32.toInt vS90_
            have r92_ := mi_f mS90_ 46 rfl
            exact n_rW mS90_ FS90_ (by omega)
        · skip
          have r93_ := mi_f mS75_ 46 rfl
          refine n_let ?_
          try have i94_ : ((S75_.1 46) + (1 : Int32)).toInt = (S75_.1 46).toInt + (1 : Int32).toInt := i_add (by omega) (by omega)
          refine n_sI mS75_ FS75_ (by first | decide | exact hE _ (by decide) | simp) rfl (by omega) (by omega) (fun S95_ mS95_ FS95_ vS95_ gS95_ hS95_ => ?_)
          have q96_ := congrArg Int32.toInt vS95_
          have r97_ := mi_f mS95_ 46 rfl
          exact n_rW mS95_ FS95_ (by omega)
      · skip
        unfold gM_readRow_78
        refine n_let ?_
        refine n_eq (fun c98_ => ?_) (fun c98_ => ?_)
        · skip
          refine n_let ?_
          refine n_eq (fun c99_ => ?_) (fun c99_ => ?_)
          · skip
            refine n_let ?_
            try have i100_ : ((S12_.1 46) + (1 : Int32)).toInt = (S12_.1 46).toInt + (1 : Int32).toInt := i_add (by omega) (by omega)
            refine n_sI mS12_ FS12_ (by first | decide | exact hE _ (by decide) | simp) rfl (by omega) (by omega) (fun S101_ mS101_ FS101_ vS101_ gS101_ hS101_ => ?_)
            have q102_ := congrArg Int32.toInt vS101_
            have r103_ := mi_f mS101_ 46 rfl
            exact n_rW mS101_ FS101_ (by omega)
          · skip
            refine n_sI mS12_ FS12_ (by first | decide | exact hE _ (by decide) | simp) rfl (by omega) (by omega) (fun S104_ mS104_ FS104_ vS104_ gS104_ hS104_ => ?_)
            have q105_ := congrArg Int32.toInt (gS104_ 46 (by decide))
            have r106_ := mi_f mS104_ 46 rfl
            refine n_let ?_
            try have i107_ : ((S104_.1 46) + (1 : Int32)).toInt = (S104_.1 46).toInt + (1 : Int32).toInt := i_add (by omega) (by omega)
            refine n_sI mS104_ FS104_ (by first | decide | exact hE _ (by decide) | simp) rfl (by omega) (by omega) (fun S108_ mS108_ FS108_ vS108_ gS108_ hS108_ => ?_)
            have q109_ := congrArg Int32.toInt vS108_
            have r110_ := mi_f mS108_ 46 rfl
            exact n_rW mS108_ FS108_ (by omega)
        · skip
          refine n_let ?_
          try have i111_ : ((S12_.1 46) + (1 : Int32)).toInt = (S12_.1 46).toInt + (1 : Int32).toInt := i_add (by omega) (by omega)
          refine n_sI mS12_ FS12_ (by first | decide | exact hE _ (by decide) | simp) rfl (by omega) (by omega) (fun S112_ mS112_ FS112_ vS112_ gS112_ hS112_ => ?_)
          have q113_ := congrArg Int32.toInt vS112_
          have r114_ := mi_f mS112_ 46 rfl
          exact n_rW mS112_ FS112_ (by omega)
  · skip
    refine n_let ?_
    unfold gM_readRow_29
    have r115_ := mi_f mS5_ 46 rfl
    refine n_let ?_
    refine n_let ?_
    refine n_eq (fun c116_ => ?_) (fun c116_ => ?_)
    · skip
      have L117_ : (16 : Int32).toInt = 16 := rfl
      try have i118_ : ((16 : Int32) * (S5_.1 46)).toInt = 16 * (S5_.1 46).toInt := i_mul (n := 16) rfl (by omega) (by omega)
      refine n_cW FS5_ (nM_readName  mS5_ (by decide) (by first | decide | exact hE _ (by decide)) (by first | omega | assumption) (by first | omega | assumption) (by first | omega | assumption) (by first | omega | assumption)) (by first | decide | (intro k q; exact hE k (by revert q; revert k; decide))) (fun x3119_ S120_ mS120_ FS120_ fS120_ qx3119_ => ?_)
      have q121_ := congrArg Int32.toInt (fS120_.1 46 (by decide))
      refine n_wI (L := 60) mS120_ FS120_ (by first | decide | exact hE _ (by decide) | simp) (by decide) (by decide) rfl (by omega) (by omega) (by omega) (by omega) (fun S122_ mS122_ FS122_ gS122_ hS122_ kS122_ => ?_)
      have q123_ := congrArg Int32.toInt (congrFun gS122_ 44)
      have q124_ := congrArg Int32.toInt (congrFun gS122_ 45)
      have q125_ := congrArg Int32.toInt (congrFun gS122_ 46)
      unfold gM_readRow_64
      have r126_ := mi_f mS122_ 45 rfl
      refine n_let ?_
      refine n_eq (fun c127_ => ?_) (fun c127_ => ?_)
      · skip
        refine n_cW FS122_ (nM_readValue  mS122_ (by first | omega | assumption) (by first | omega | assumption) (by first | omega | assumption) (by first | omega | assumption)) (by first | decide | (intro k q; exact hE k (by revert q; revert k; decide))) (fun v128_ S129_ mS129_ FS129_ fS129_ qv128_ => ?_)
        have q130_ := congrArg Int32.toInt (fS129_.1 46 (by decide))
        unfold gM_readRow_78
        have r131_ := mi_f mS129_ 45 rfl
        refine n_let ?_
        refine n_eq (fun c132_ => ?_) (fun c132_ => ?_)
        · skip
          have r133_ := mi_f mS129_ 44 rfl
          refine n_let ?_
          refine n_eq (fun c134_ => ?_) (fun c134_ => ?_)
          · skip
            have r135_ := mi_f mS129_ 46 rfl
            refine n_let ?_
            try have i136_ : ((S129_.1 46) + (1 : Int32)).toInt = (S129_.1 46).toInt + (1 : Int32).toInt := i_add (by omega) (by omega)
            refine n_sI mS129_ FS129_ (by first | decide | exact hE _ (by decide) | simp) rfl (by omega) (by omega) (fun S137_ mS137_ FS137_ vS137_ gS137_ hS137_ => ?_)
            have q138_ := congrArg Int32.toInt vS137_
            have r139_ := mi_f mS137_ 46 rfl
            exact n_rW mS137_ FS137_ (by omega)
          · skip
            refine n_sI mS129_ FS129_ (by first | decide | exact hE _ (by decide) | simp) rfl (by omega) (by omega) (fun S140_ mS140_ FS140_ vS140_ gS140_ hS140_ => ?_)
            have q141_ := congrArg Int32.toInt (gS140_ 46 (by decide))
            have r142_ := mi_f mS140_ 46 rfl
            refine n_let ?_
            try have i143_ : ((S140_.1 46) + (1 : Int32)).toInt = (S140_.1 46).toInt + (1 : Int32).toInt := i_add (by omega) (by omega)
            refine n_sI mS140_ FS140_ (by first | decide | exact hE _ (by decide) | simp) rfl (by omega) (by omega) (fun S144_ mS144_ FS144_ vS144_ gS144_ hS144_ => ?_)
            have q145_ := congrArg Int32.toInt vS144_
            have r146_ := mi_f mS144_ 46 rfl
            exact n_rW mS144_ FS144_ (by omega)
        · skip
          have r147_ := mi_f mS129_ 46 rfl
          refine n_let ?_
          try have i148_ : ((S129_.1 46) + (1 : Int32)).toInt = (S129_.1 46).toInt + (1 : Int32).toInt := i_add (by omega) (by omega)
          refine n_sI mS129_ FS129_ (by first | decide | exact hE _ (by decide) | simp) rfl (by omega) (by omega) (fun S149_ mS149_ FS149_ vS149_ gS149_ hS149_ => ?_)
          have q150_ := congrArg Int32.toInt vS149_
          have r151_ := mi_f mS149_ 46 rfl
          exact n_rW mS149_ FS149_ (by omega)
      · skip
        unfold gM_readRow_78
        refine n_let ?_
        refine n_eq (fun c152_ => ?_) (fun c152_ => ?_)
        · skip
          have r153_ := mi_f mS122_ 44 rfl
          refine n_let ?_
          refine n_eq (fun c154_ => ?_) (fun c154_ => ?_)
          · skip
            have r155_ := mi_f mS122_ 46 rfl
            refine n_let ?_
            try have i156_ : ((S122_.1 46) + (1 : Int32)).toInt = (S122_.1 46).toInt + (1 : Int32).toInt := i_add (by omega) (by omega)
            refine n_sI mS122_ FS122_ (by first | decide | exact hE _ (by decide) | simp) rfl (by omega) (by omega) (fun S157_ mS157_ FS157_ vS157_ gS157_ hS157_ => ?_)
            have q158_ := congrArg Int32.toInt vS157_
            have r159_ := mi_f mS157_ 46 rfl
            exact n_rW mS157_ FS157_ (by omega)
          · skip
            refine n_sI mS122_ FS122_ (by first | decide | exact hE _ (by decide) | simp) rfl (by omega) (by omega) (fun S160_ mS160_ FS160_ vS160_ gS160_ hS160_ => ?_)
            have q161_ := congrArg Int32.toInt (gS160_ 46 (by decide))
            have r162_ := mi_f mS160_ 46 rfl
            refine n_let ?_
            try have i163_ : ((S160_.1 46) + (1 : Int32)).toInt = (S160_.1 46).toInt + (1 : Int32).toInt := i_add (by omega) (by omega)
            refine n_sI mS160_ FS160_ (by first | decide | exact hE _ (by decide) | simp) rfl (by omega) (by omega) (fun S164_ mS164_ FS164_ vS164_ gS164_ hS164_ => ?_)
            have q165_ := congrArg Int32.toInt vS164_
            have r166_ := mi_f mS164_ 46 rfl
            exact n_rW mS164_ FS164_ (by omega)
        · skip
          have r167_ := mi_f mS122_ 46 rfl
          refine n_let ?_
          try have i168_ : ((S122_.1 46) + (1 : Int32)).toInt = (S122_.1 46).toInt + (1 : Int32).toInt := i_add (by omega) (by omega)
          refine n_sI mS122_ FS122_ (by first | decide | exact hE _ (by decide) | simp) rfl (by omega) (by omega) (fun S169_ mS169_ FS169_ vS169_ gS169_ hS169_ => ?_)
          have q170_ := congrArg Int32.toInt vS169_
          have r171_ := mi_f mS169_ 46 rfl
          exact n_rW mS169_ FS169_ (by omega)
    · skip
      unfold gM_readRow_64
      refine n_let ?_
      refine n_eq (fun c172_ => ?_) (fun c172_ => ?_)
      · skip
        refine n_cW FS5_ (nM_readValue  mS5_ (by first | omega | assumption) (by first | omega | assumption) (by first | omega | assumption) (by first | omega | assumption)) (by first | decide | (intro k q; exact hE k (by revert q; revert k; decide))) (fun v173_ S174_ mS174_ FS174_ fS174_ qv173_ => ?_)
        have q175_ := congrArg Int32.toInt (fS174_.1 46 (by decide))
        unfold gM_readRow_78
        have r176_ := mi_f mS174_ 45 rfl
        refine n_let ?_
        refine n_eq (fun c177_ => ?_) (fun c177_ => ?_)
        · skip
          have r178_ := mi_f mS174_ 44 rfl
          refine n_let ?_
          refine n_eq (fun c179_ => ?_) (fun c179_ => ?_)
          · skip
            have r180_ := mi_f mS174_ 46 rfl
            refine n_let ?_
            try have i181_ : ((S174_.1 46) + (1 : Int32)).toInt = (S174_.1 46).toInt + (1 : Int32).toInt := i_add (by omega) (by omega)
            refine n_sI mS174_ FS174_ (by first | decide | exact hE _ (by decide) | simp) rfl (by omega) (by omega) (fun S182_ mS182_ FS182_ vS182_ gS182_ hS182_ => ?_)
            have q183_ := congrArg Int32.toInt vS182_
            have r184_ := mi_f mS182_ 46 rfl
            exact n_rW mS182_ FS182_ (by omega)
          · skip
            refine n_sI mS174_ FS174_ (by first | decide | exact hE _ (by decide) | simp) rfl (by omega) (by omega) (fun S185_ mS185_ FS185_ vS185_ gS185_ hS185_ => ?_)
            have q186_ := congrArg Int32.toInt (gS185_ 46 (by decide))
            have r187_ := mi_f mS185_ 46 rfl
            refine n_let ?_
            try have i188_ : ((S185_.1 46) + (1 : Int32)).toInt = (S185_.1 46).toInt + (1 : Int32).toInt := i_add (by omega) (by omega)
            refine n_sI mS185_ FS185_ (by first | decide | exact hE _ (by decide) | simp) rfl (by omega) (by omega) (fun S189_ mS189_ FS189_ vS189_ gS189_ hS189_ => ?_)
            have q190_ := congrArg Int32.toInt vS189_
            have r191_ := mi_f mS189_ 46 rfl
            exact n_rW mS189_ FS189_ (by omega)
        · skip
          have r192_ := mi_f mS174_ 46 rfl
          refine n_let ?_
          try have i193_ : ((S174_.1 46) + (1 : Int32)).toInt = (S174_.1 46).toInt + (1 : Int32).toInt := i_add (by omega) (by omega)
          refine n_sI mS174_ FS174_ (by first | decide | exact hE _ (by decide) | simp) rfl (by omega) (by omega) (fun S194_ mS194_ FS194_ vS194_ gS194_ hS194_ => ?_)
          have q195_ := congrArg Int32.toInt vS194_
          have r196_ := mi_f mS194_ 46 rfl
          exact n_rW mS194_ FS194_ (by omega)
      · skip
        unfold gM_readRow_78
        refine n_let ?_
        refine n_eq (fun c197_ => ?_) (fun c197_ => ?_)
        · skip
          refine n_let ?_
          refine n_eq (fun c198_ => ?_) (fun c198_ => ?_)
          · skip
            refine n_let ?_
            try have i199_ : ((S5_.1 46) + (1 : Int32)).toInt = (S5_.1 46).toInt + (1 : Int32).toInt := i_add (by omega) (by omega)
            refine n_sI mS5_ FS5_ (by first | decide | exact hE _ (by decide) | simp) rfl (by omega) (by omega) (fun S200_ mS200_ FS200_ vS200_ gS200_ hS200_ => ?_)
            have q201_ := congrArg Int32.toInt vS200_
            have r202_ := mi_f mS200_ 46 rfl
            exact n_rW mS200_ FS200_ (by omega)
          · skip
            refine n_sI mS5_ FS5_ (by first | decide | exact hE _ (by decide) | simp) rfl (by omega) (by omega) (fun S203_ mS203_ FS203_ vS203_ gS203_ hS203_ => ?_)
            have q204_ := congrArg Int32.toInt (gS203_ 46 (by decide))
            have r205_ := mi_f mS203_ 46 rfl
            refine n_let ?_
            try have i206_ : ((S203_.1 46) + (1 : Int32)).toInt = (S203_.1 46).toInt + (1 : Int32).toInt := i_add (by omega) (by omega)
            refine n_sI mS203_ FS203_ (by first | decide | exact hE _ (by decide) | simp) rfl (by omega) (by omega) (fun S207_ mS207_ FS207_ vS207_ gS207_ hS207_ => ?_)
            have q208_ := congrArg Int32.toInt vS207_
            have r209_ := mi_f mS207_ 46 rfl
            exact n_rW mS207_ FS207_ (by omega)
        · skip
          refine n_let ?_
          try have i210_ : ((S5_.1 46) + (1 : Int32)).toInt = (S5_.1 46).toInt + (1 : Int32).toInt := i_add (by omega) (by omega)
          refine n_sI mS5_ FS5_ (by first | decide | exact hE _ (by decide) | simp) rfl (by omega) (by omega) (fun S211_ mS211_ FS211_ vS211_ gS211_ hS211_ => ?_)
          have q212_ := congrArg Int32.toInt vS211_
          have r213_ := mi_f mS211_ 46 rfl
          exact n_rW mS211_ FS211_ (by omega)
