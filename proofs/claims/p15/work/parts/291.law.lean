set_option maxRecDepth 100000 in
set_option maxHeartbeats 40000000 in
theorem law_loop {L : Nat} {xs : Nat → Int32} {sz x m : Nat} (hL : L ≤ 4608) : ∀ (n : Nat) (a3 : Int32) (G : GT) (h : sm_H) (S : MS), PI x m G h S S.2.1 → 0 ≤ a3.toInt → a3.toInt ≤ 4617 → sz ≤ h.1 → (h.1 : Int) - sz + 60 * (4617 - a3.toInt) ≤ 600000 → (h.2.1 : Int) + 800 * (4617 - a3.toInt) ≤ 7302250 → 4617 - a3.toInt < (n : Int) → lJ sz (fL_law_18 L xs n (some x) (some m) a3 h) := by
  have hLi : (Int32.ofNat L).toInt = (L : Int) := Int32.toInt_ofNat_of_lt (by omega)
  have L9 : (9 : Int32).toInt = 9 := rfl
  have hL9 : (Int32.ofNat L - 9).toInt = (L : Int) - 9 := by rw [i_sub (by omega) (by omega)]; omega
  intro n
  induction n with
  | zero => intro a3 G h S H p0 p1 p2 p3 p4 q; exfalso; omega
  | succ n ih =>
    intro a3 G h S H p0 p1 p2 p3 p4 q
    have r2 := mi_f H.2.1.2.1 2 rfl
    unfold fL_law_18
    refine l_if (fun c => ?_) (fun c => ?_)
    · exact ⟨h, rfl, by omega, by omega⟩
    · have c1 : a3.toInt ≤ (L : Int) - 9 := by rw [Int32.lt_iff_toInt_lt, hL9] at c; omega
      have k1 : (a3 + (1 : Int32)).toInt = a3.toInt + 1 := by rw [i_add (by rw [show (1 : Int32).toInt = 1 from rfl]; omega) (by rw [show (1 : Int32).toInt = 1 from rfl]; omega)]; rfl
      have k2 : (a3 + (2 : Int32)).toInt = a3.toInt + 2 := by rw [i_add (by rw [show (2 : Int32).toInt = 2 from rfl]; omega) (by rw [show (2 : Int32).toInt = 2 from rfl]; omega)]; rfl
      have k3 : (a3 + (3 : Int32)).toInt = a3.toInt + 3 := by rw [i_add (by rw [show (3 : Int32).toInt = 3 from rfl]; omega) (by rw [show (3 : Int32).toInt = 3 from rfl]; omega)]; rfl
      have k4 : (a3 + (4 : Int32)).toInt = a3.toInt + 4 := by rw [i_add (by rw [show (4 : Int32).toInt = 4 from rfl]; omega) (by rw [show (4 : Int32).toInt = 4 from rfl]; omega)]; rfl
      have k5 : (a3 + (5 : Int32)).toInt = a3.toInt + 5 := by rw [i_add (by rw [show (5 : Int32).toInt = 5 from rfl]; omega) (by rw [show (5 : Int32).toInt = 5 from rfl]; omega)]; rfl
      have k6 : (a3 + (6 : Int32)).toInt = a3.toInt + 6 := by rw [i_add (by rw [show (6 : Int32).toInt = 6 from rfl]; omega) (by rw [show (6 : Int32).toInt = 6 from rfl]; omega)]; rfl
      have k7 : (a3 + (7 : Int32)).toInt = a3.toInt + 7 := by rw [i_add (by rw [show (7 : Int32).toInt = 7 from rfl]; omega) (by rw [show (7 : Int32).toInt = 7 from rfl]; omega)]; rfl
      have k8 : (a3 + (8 : Int32)).toInt = a3.toInt + 8 := by rw [i_add (by rw [show (8 : Int32).toInt = 8 from rfl]; omega) (by rw [show (8 : Int32).toInt = 8 from rfl]; omega)]; rfl
      have k9 : (a3 + (9 : Int32)).toInt = a3.toInt + 9 := by rw [i_add (by rw [show (9 : Int32).toInt = 9 from rfl]; omega) (by rw [show (9 : Int32).toInt = 9 from rfl]; omega)]; rfl
      have fin : ∀ (G2 : GT) (h2 : sm_H) (S2 : MS), PI x m G2 h2 S2 S2.2.1 → h.1 ≤ h2.1 → h2.1 ≤ h.1 + 60 → h2.2.1 ≤ h.2.1 + 800 → lJ sz (fL_law_18 L xs n (some x) (some m) (a3 + (9 : Int32)) h2) := by
        intro G2 h2 S2 H2 t1 t2 t3
        clear k1 k2 k3 k4 k5 k6 k7 k8 c H
        exact ih (a3 + (9 : Int32)) G2 h2 S2 H2 (by rw [k9]; omega) (by rw [k9]; omega) (by omega) (by rw [k9]; omega) (by rw [k9]; omega) (by rw [k9]; omega)
      have X0 : ¬ (a3 < 0 ∨ L ≤ a3.toNatClampNeg) := n_ix (by omega) (by omega)
      have X1 : ¬ ((a3 + (1 : Int32)) < 0 ∨ L ≤ (a3 + (1 : Int32)).toNatClampNeg) := n_ix (by omega) (by omega)
      have X2 : ¬ ((a3 + (2 : Int32)) < 0 ∨ L ≤ (a3 + (2 : Int32)).toNatClampNeg) := n_ix (by omega) (by omega)
      have X3 : ¬ ((a3 + (3 : Int32)) < 0 ∨ L ≤ (a3 + (3 : Int32)).toNatClampNeg) := n_ix (by omega) (by omega)
      have X4 : ¬ ((a3 + (4 : Int32)) < 0 ∨ L ≤ (a3 + (4 : Int32)).toNatClampNeg) := n_ix (by omega) (by omega)
      have X5 : ¬ ((a3 + (5 : Int32)) < 0 ∨ L ≤ (a3 + (5 : Int32)).toNatClampNeg) := n_ix (by omega) (by omega)
      have X6 : ¬ ((a3 + (6 : Int32)) < 0 ∨ L ≤ (a3 + (6 : Int32)).toNatClampNeg) := n_ix (by omega) (by omega)
      have X7 : ¬ ((a3 + (7 : Int32)) < 0 ∨ L ≤ (a3 + (7 : Int32)).toNatClampNeg) := n_ix (by omega) (by omega)
      have X8 : ¬ ((a3 + (8 : Int32)) < 0 ∨ L ≤ (a3 + (8 : Int32)).toNatClampNeg) := n_ix (by omega) (by omega)
      clear hL9 hLi L9 c k1 k2 k3 k4 k5 k6 k7 k8 k9 ih p0 p1 p2 p3 p4 q c1
      refine l_nn X0 ?_
      refine l_lets ?_
      refine l_let (fun x2_ => ?_)
      refine l_if (fun c3_ => ?_) (fun c3_ => ?_)
      · skip
        refine l_nn X1 ?_
        refine l_lets ?_
        refine l_nn X2 ?_
        refine l_lets ?_
        refine l_nn X3 ?_
        refine l_lets ?_
        refine l_ox H ?_
        refine l_cW H (kX11_feed H.1.1 H.1.2) (by simp) (by simp) (fun r7_ h8_ H9_ s10_ u11_ => ?_)
        refine l_nn X1 ?_
        refine l_lets ?_
        refine l_nn X2 ?_
        refine l_lets ?_
        refine l_nn X3 ?_
        refine l_lets ?_
        refine l_om H9_ ?_
        refine l_r H9_ (tM_feed_0 _ _ _ _ _ H9_.2.1.1) (nM_feed H9_.2.1.2.1) (fun _ _ _ f => jj_fr f (by decide) (by decide) (by decide) (by decide) H9_.2.1.2.2.1) (fun r15_ h16_ S20_ H17_ s18_ u19_ f21_ q22_ => ?_)
        have H23_ : PI x m G h16_ S20_ S20_.2.1 := by rw [f21_.2.2.2 (by decide)]; exact H17_
        refine l_lets ?_
        exact fin G h16_ S20_ H23_ (by omega) (by omega) (by omega)
      · skip
        refine l_if (fun c24_ => ?_) (fun c24_ => ?_)
        · skip
          refine l_nn X1 ?_
          refine l_lets ?_
          refine l_nn X2 ?_
          refine l_lets ?_
          refine l_ox H ?_
          refine l_cW H (kX11_number H.1.1 H.1.2) (by simp) (by simp) (fun r27_ h28_ H29_ s30_ u31_ => ?_)
          refine l_nn X1 ?_
          refine l_lets ?_
          refine l_nn X2 ?_
          refine l_lets ?_
          refine l_om H29_ ?_
          refine l_r H29_ (tM_number_0 _ _ _ _ H29_.2.1.1) (nM_number H29_.2.1.2.1) (fun _ _ _ f => jj_fr f (by decide) (by decide) (by decide) (by decide) H29_.2.1.2.2.1) (fun r34_ h35_ S39_ H36_ s37_ u38_ f40_ q41_ => ?_)
          have H42_ : PI x m G h35_ S39_ S39_.2.1 := by rw [f40_.2.2.2 (by decide)]; exact H36_
          refine l_lets ?_
          exact fin G h35_ S39_ H42_ (by omega) (by omega) (by omega)
        · skip
          refine l_if (fun c43_ => ?_) (fun c43_ => ?_)
          · skip
            refine l_nn X1 ?_
            refine l_lets ?_
            refine l_nn X2 ?_
            refine l_lets ?_
            refine l_nn X3 ?_
            refine l_lets ?_
            refine l_nn X4 ?_
            refine l_lets ?_
            refine l_nn X5 ?_
            refine l_lets ?_
            refine l_nn X6 ?_
            refine l_lets ?_
            refine l_ox H ?_
            refine l_cA H (kX11_scalar H.1.1 H.1.2) (by simp) (by simp) (fun r50_ h51_ G55_ H52_ s53_ u54_ s53_l => ?_)
            refine l_nn X1 ?_
            refine l_lets ?_
            refine l_nn X2 ?_
            refine l_lets ?_
            refine l_nn X3 ?_
            refine l_lets ?_
            refine l_nn X4 ?_
            refine l_lets ?_
            refine l_nn X5 ?_
            refine l_lets ?_
            refine l_nn X6 ?_
            refine l_lets ?_
            refine l_om H52_ ?_
            refine l_r H52_ (tM_scalar_0 _ _ _ _ _ _ _ H52_.2.1.1) (nM_scalar H52_.2.1.2.1) (fun r S1 e _ => jj_scalar H52_.2.1.2.1 H52_.2.1.2.2.1 e) (fun r62_ h63_ S67_ H64_ s65_ u66_ f68_ q69_ => ?_)
            have H70_ : PI x m G55_ h63_ S67_ S67_.2.1 := by rw [f68_.2.2.2 (by decide)]; exact H64_
            refine l_lets ?_
            exact fin G55_ h63_ S67_ H70_ (by omega) (by omega) (by omega)
          · skip
            refine l_if (fun c71_ => ?_) (fun c71_ => ?_)
            · skip
              refine l_ox H ?_
              refine l_cA H (kX11_table H.1.1 H.1.2) (by simp) (by simp) (fun r72_ h73_ G77_ H74_ s75_ u76_ s75_l => ?_)
              refine l_om H74_ ?_
              refine l_r H74_ (tM_table_0 _ _ _ H74_.2.1.1) (nM_table H74_.2.1.2.1) (fun _ _ _ f => jj_fr f (by decide) (by decide) (by decide) (by decide) H74_.2.1.2.2.1) (fun r78_ h79_ S83_ H80_ s81_ u82_ f84_ q85_ => ?_)
              have H86_ : PI x m G77_ h79_ S83_ S83_.2.1 := by rw [f84_.2.2.2 (by decide)]; exact H80_
              refine l_lets ?_
              exact fin G77_ h79_ S83_ H86_ (by omega) (by omega) (by omega)
            · skip
              refine l_if (fun c87_ => ?_) (fun c87_ => ?_)
              · skip
                refine l_nn X1 ?_
                refine l_lets ?_
                refine l_nn X2 ?_
                refine l_lets ?_
                refine l_nn X3 ?_
                refine l_lets ?_
                refine l_nn X4 ?_
                refine l_lets ?_
                refine l_nn X5 ?_
                refine l_lets ?_
                refine l_nn X6 ?_
                refine l_lets ?_
                refine l_nn X7 ?_
                refine l_lets ?_
                refine l_nn X8 ?_
                refine l_lets ?_
                refine l_ox H ?_
                refine l_cA H (kX11_column H.1.1 H.1.2) (by simp) (by simp) (fun r96_ h97_ G101_ H98_ s99_ u100_ s99_l => ?_)
                refine l_nn X1 ?_
                refine l_lets ?_
                refine l_nn X2 ?_
                refine l_lets ?_
                refine l_nn X3 ?_
                refine l_lets ?_
                refine l_nn X4 ?_
                refine l_lets ?_
                refine l_nn X5 ?_
                refine l_lets ?_
                refine l_nn X6 ?_
                refine l_lets ?_
                refine l_nn X7 ?_
                refine l_lets ?_
                refine l_nn X8 ?_
                refine l_lets ?_
                refine l_om H98_ ?_
                refine l_r H98_ (tM_column_0 _ _ _ _ _ _ _ _ _ H98_.2.1.1) (nM_column H98_.2.1.2.1) (fun r S1 e _ => jj_column H98_.2.1.2.1 H98_.2.1.2.2.1 e) (fun r110_ h111_ S115_ H112_ s113_ u114_ f116_ q117_ => ?_)
                have H118_ : PI x m G101_ h111_ S115_ S115_.2.1 := by rw [f116_.2.2.2 (by decide)]; exact H112_
                refine l_lets ?_
                exact fin G101_ h111_ S115_ H118_ (by omega) (by omega) (by omega)
              · skip
                refine l_if (fun c119_ => ?_) (fun c119_ => ?_)
                · skip
                  refine l_nn X1 ?_
                  refine l_lets ?_
                  refine l_nn X2 ?_
                  refine l_lets ?_
                  refine l_ox H ?_
                  refine l_cA H (kX11_status H.1.1 H.1.2) (by simp) (by simp) (fun r122_ h123_ G127_ H124_ s125_ u126_ s125_l => ?_)
                  refine l_nn X1 ?_
                  refine l_lets ?_
                  refine l_nn X2 ?_
                  refine l_lets ?_
                  refine l_om H124_ ?_
                  refine l_r H124_ (tM_status_0 _ _ _ _ _ H124_.2.1.1) (nM_status H124_.2.1.2.1) (fun r S1 e _ => jj_status H124_.2.1.2.1 H124_.2.1.2.2.1 e) (fun r130_ h131_ S135_ H132_ s133_ u134_ f136_ q137_ => ?_)
                  have H138_ : PI x m G127_ h131_ S135_ S135_.2.1 := by rw [f136_.2.2.2 (by decide)]; exact H132_
                  refine l_lets ?_
                  exact fin G127_ h131_ S135_ H138_ (by omega) (by omega) (by omega)
                · skip
                  refine l_if (fun c139_ => ?_) (fun c139_ => ?_)
                  · skip
                    refine l_nn X1 ?_
                    refine l_lets ?_
                    refine l_nn X2 ?_
                    refine l_lets ?_
                    refine l_nn X3 ?_
                    refine l_lets ?_
                    refine l_if (fun c143_ => ?_) (fun c143_ => ?_)
                    · skip
                      unfold fL_law_568
                      refine l_ox H ?_
                      refine l_cW H (kX11_row H.1.1 H.1.2 (by decide)) (by simp) (by simp) (fun r144_ h145_ H146_ s147_ u148_ => ?_)
                      refine l_nn X1 ?_
                      refine l_lets ?_
                      refine l_nn X2 ?_
                      refine l_lets ?_
                      refine l_nn X3 ?_
                      refine l_lets ?_
                      refine l_if (fun c152_ => ?_) (fun c152_ => ?_)
                      · skip
                        refine l_om H146_ ?_
                        refine l_r H146_ (tM_row_0 _ _ _ _ _ _ H146_.2.1.1) (nM_row H146_.2.1.2.1 (by decide)) (fun _ _ _ f => jj_fr f (by decide) (by decide) (by decide) (by decide) H146_.2.1.2.2.1) (fun r153_ h154_ S158_ H155_ s156_ u157_ f159_ q160_ => ?_)
                        have H161_ : PI x m G h154_ S158_ S158_.2.1 := by rw [f159_.2.2.2 (by decide)]; exact H155_
                        refine l_lets ?_
                        exact fin G h154_ S158_ H161_ (by omega) (by omega) (by omega)
                      · skip
                        refine l_om H146_ ?_
                        refine l_r H146_ (tM_row_0 _ _ _ _ _ _ H146_.2.1.1) (nM_row H146_.2.1.2.1 (by decide)) (fun _ _ _ f => jj_fr f (by decide) (by decide) (by decide) (by decide) H146_.2.1.2.2.1) (fun r162_ h163_ S167_ H164_ s165_ u166_ f168_ q169_ => ?_)
                        have H170_ : PI x m G h163_ S167_ S167_.2.1 := by rw [f168_.2.2.2 (by decide)]; exact H164_
                        refine l_lets ?_
                        exact fin G h163_ S167_ H170_ (by omega) (by omega) (by omega)
                    · skip
                      unfold fL_law_568
                      refine l_ox H ?_
                      refine l_cW H (kX11_row H.1.1 H.1.2 (by decide)) (by simp) (by simp) (fun r171_ h172_ H173_ s174_ u175_ => ?_)
                      refine l_nn X1 ?_
                      refine l_lets ?_
                      refine l_nn X2 ?_
                      refine l_lets ?_
                      refine l_nn X3 ?_
                      refine l_lets ?_
                      refine l_if (fun c179_ => ?_) (fun c179_ => ?_)
                      · skip
                        refine l_om H173_ ?_
                        refine l_r H173_ (tM_row_0 _ _ _ _ _ _ H173_.2.1.1) (nM_row H173_.2.1.2.1 (by decide)) (fun _ _ _ f => jj_fr f (by decide) (by decide) (by decide) (by decide) H173_.2.1.2.2.1) (fun r180_ h181_ S185_ H182_ s183_ u184_ f186_ q187_ => ?_)
                        have H188_ : PI x m G h181_ S185_ S185_.2.1 := by rw [f186_.2.2.2 (by decide)]; exact H182_
                        refine l_lets ?_
                        exact fin G h181_ S185_ H188_ (by omega) (by omega) (by omega)
                      · skip
                        refine l_om H173_ ?_
                        refine l_r H173_ (tM_row_0 _ _ _ _ _ _ H173_.2.1.1) (nM_row H173_.2.1.2.1 (by decide)) (fun _ _ _ f => jj_fr f (by decide) (by decide) (by decide) (by decide) H173_.2.1.2.2.1) (fun r189_ h190_ S194_ H191_ s192_ u193_ f195_ q196_ => ?_)
                        have H197_ : PI x m G h190_ S194_ S194_.2.1 := by rw [f195_.2.2.2 (by decide)]; exact H191_
                        refine l_lets ?_
                        exact fin G h190_ S194_ H197_ (by omega) (by omega) (by omega)
                  · skip
                    refine l_if (fun c198_ => ?_) (fun c198_ => ?_)
                    · skip
                      refine l_nn X1 ?_
                      refine l_lets ?_
                      refine l_nn X2 ?_
                      refine l_lets ?_
                      refine l_nn X3 ?_
                      refine l_lets ?_
                      refine l_nn X4 ?_
                      refine l_lets ?_
                      refine l_ox H ?_
                      refine l_cW H (kX11_value H.1.1 H.1.2) (by simp) (by simp) (fun r203_ h204_ H205_ s206_ u207_ => ?_)
                      refine l_nn X1 ?_
                      refine l_lets ?_
                      refine l_nn X2 ?_
                      refine l_lets ?_
                      refine l_nn X3 ?_
                      refine l_lets ?_
                      refine l_nn X4 ?_
                      refine l_lets ?_
                      refine l_om H205_ ?_
                      refine l_r H205_ (tM_value_0 _ _ _ _ _ _ H205_.2.1.1) (nM_value H205_.2.1.2.1) (fun _ _ _ f => jj_fr f (by decide) (by decide) (by decide) (by decide) H205_.2.1.2.2.1) (fun r212_ h213_ S217_ H214_ s215_ u216_ f218_ q219_ => ?_)
                      have H220_ : PI x m G h213_ S217_ S217_.2.1 := by rw [f218_.2.2.2 (by decide)]; exact H214_
                      refine l_lets ?_
                      exact fin G h213_ S217_ H220_ (by omega) (by omega) (by omega)
                    · skip
                      refine l_if (fun c221_ => ?_) (fun c221_ => ?_)
                      · skip
                        refine l_nn X1 ?_
                        refine l_lets ?_
                        refine l_nn X2 ?_
                        refine l_lets ?_
                        refine l_ox H ?_
                        refine l_cW H (kX11_text H.1.1 H.1.2) (by simp) (by simp) (fun r224_ h225_ H226_ s227_ u228_ => ?_)
                        refine l_nn X1 ?_
                        refine l_lets ?_
                        refine l_nn X2 ?_
                        refine l_lets ?_
                        refine l_om H226_ ?_
                        refine l_r H226_ (tM_text_0 _ _ _ _ _ H226_.2.1.1) (nM_text H226_.2.1.2.1) (fun _ _ _ f => jj_fr f (by decide) (by decide) (by decide) (by decide) H226_.2.1.2.2.1) (fun r231_ h232_ S236_ H233_ s234_ u235_ f237_ q238_ => ?_)
                        have H239_ : PI x m G h232_ S236_ S236_.2.1 := by rw [f237_.2.2.2 (by decide)]; exact H233_
                        refine l_lets ?_
                        exact fin G h232_ S236_ H239_ (by omega) (by omega) (by omega)
                      · skip
                        refine l_if (fun c240_ => ?_) (fun c240_ => ?_)
                        · skip
                          refine l_nn X1 ?_
                          refine l_lets ?_
                          refine l_nn X2 ?_
                          refine l_lets ?_
                          refine l_ox H ?_
                          refine l_cW H (kX11_identity H.1.1 H.1.2) (by simp) (by simp) (fun r243_ h244_ H245_ s246_ u247_ => ?_)
                          refine l_nn X1 ?_
                          refine l_lets ?_
                          refine l_nn X2 ?_
                          refine l_lets ?_
                          refine l_om H245_ ?_
                          refine l_r H245_ (tM_identity_0 _ _ _ _ _ H245_.2.1.1) (nM_identity H245_.2.1.2.1) (fun _ _ _ f => jj_fr f (by decide) (by decide) (by decide) (by decide) H245_.2.1.2.2.1) (fun r250_ h251_ S255_ H252_ s253_ u254_ f256_ q257_ => ?_)
                          have H258_ : PI x m G h251_ S255_ S255_.2.1 := by rw [f256_.2.2.2 (by decide)]; exact H252_
                          refine l_lets ?_
                          exact fin G h251_ S255_ H258_ (by omega) (by omega) (by omega)
                        · skip
                          refine l_if (fun c259_ => ?_) (fun c259_ => ?_)
                          · skip
                            refine l_nn X1 ?_
                            refine l_lets ?_
                            refine l_if (fun c261_ => ?_) (fun c261_ => ?_)
                            · skip
                              unfold fL_law_756
                              refine l_ox H ?_
                              refine l_cAK H (kX11_community H.1.1 H.1.2 (by decide)) (by simp) (fk_community H.1.1 H.1.2 (by decide) H.2.2) (fun r262_ h263_ G267_ H264_ s265_ u266_ s265_l => ?_)
                              refine l_nn X1 ?_
                              refine l_lets ?_
                              refine l_if (fun c269_ => ?_) (fun c269_ => ?_)
                              · skip
                                refine l_om H264_ ?_
                                refine l_r H264_ (tM_community_0 _ _ _ _ H264_.2.1.1) (nM_community H264_.2.1.2.1 (by decide)) (fun _ _ _ f => jj_fr f (by decide) (by decide) (by decide) (by decide) H264_.2.1.2.2.1) (fun r270_ h271_ S275_ H272_ s273_ u274_ f276_ q277_ => ?_)
                                have H278_ : PI x m G267_ h271_ S275_ S275_.2.1 := by rw [f276_.2.2.2 (by decide)]; exact H272_
                                refine l_lets ?_
                                exact fin G267_ h271_ S275_ H278_ (by omega) (by omega) (by omega)
                              · skip
                                refine l_om H264_ ?_
                                refine l_r H264_ (tM_community_0 _ _ _ _ H264_.2.1.1) (nM_community H264_.2.1.2.1 (by decide)) (fun _ _ _ f => jj_fr f (by decide) (by decide) (by decide) (by decide) H264_.2.1.2.2.1) (fun r279_ h280_ S284_ H281_ s282_ u283_ f285_ q286_ => ?_)
                                have H287_ : PI x m G267_ h280_ S284_ S284_.2.1 := by rw [f285_.2.2.2 (by decide)]; exact H281_
                                refine l_lets ?_
                                exact fin G267_ h280_ S284_ H287_ (by omega) (by omega) (by omega)
                            · skip
                              unfold fL_law_756
                              refine l_ox H ?_
                              refine l_cAK H (kX11_community H.1.1 H.1.2 (by decide)) (by simp) (fk_community H.1.1 H.1.2 (by decide) H.2.2) (fun r288_ h289_ G293_ H290_ s291_ u292_ s291_l => ?_)
                              refine l_nn X1 ?_
                              refine l_lets ?_
                              refine l_if (fun c295_ => ?_) (fun c295_ => ?_)
                              · skip
                                refine l_om H290_ ?_
                                refine l_r H290_ (tM_community_0 _ _ _ _ H290_.2.1.1) (nM_community H290_.2.1.2.1 (by decide)) (fun _ _ _ f => jj_fr f (by decide) (by decide) (by decide) (by decide) H290_.2.1.2.2.1) (fun r296_ h297_ S301_ H298_ s299_ u300_ f302_ q303_ => ?_)
                                have H304_ : PI x m G293_ h297_ S301_ S301_.2.1 := by rw [f302_.2.2.2 (by decide)]; exact H298_
                                refine l_lets ?_
                                exact fin G293_ h297_ S301_ H304_ (by omega) (by omega) (by omega)
                              · skip
                                refine l_om H290_ ?_
                                refine l_r H290_ (tM_community_0 _ _ _ _ H290_.2.1.1) (nM_community H290_.2.1.2.1 (by decide)) (fun _ _ _ f => jj_fr f (by decide) (by decide) (by decide) (by decide) H290_.2.1.2.2.1) (fun r305_ h306_ S310_ H307_ s308_ u309_ f311_ q312_ => ?_)
                                have H313_ : PI x m G293_ h306_ S310_ S310_.2.1 := by rw [f311_.2.2.2 (by decide)]; exact H307_
                                refine l_lets ?_
                                exact fin G293_ h306_ S310_ H313_ (by omega) (by omega) (by omega)
                          · skip
                            refine l_if (fun c314_ => ?_) (fun c314_ => ?_)
                            · skip
                              refine l_nn X1 ?_
                              refine l_lets ?_
                              refine l_nn X2 ?_
                              refine l_lets ?_
                              refine l_if (fun c317_ => ?_) (fun c317_ => ?_)
                              · skip
                                unfold fL_law_800
                                refine l_ox H ?_
                                refine l_cA H (kX11_view H.1.1 H.1.2 (by decide)) (by simp) (by simp) (fun r318_ h319_ G323_ H320_ s321_ u322_ s321_l => ?_)
                                refine l_nn X1 ?_
                                refine l_lets ?_
                                refine l_nn X2 ?_
                                refine l_lets ?_
                                refine l_if (fun c326_ => ?_) (fun c326_ => ?_)
                                · skip
                                  refine l_om H320_ ?_
                                  refine l_r H320_ (tM_view_0 _ _ _ _ _ H320_.2.1.1) (nM_view H320_.2.1.2.1 (by decide)) (fun _ _ _ f => jj_fr f (by decide) (by decide) (by decide) (by decide) H320_.2.1.2.2.1) (fun r327_ h328_ S332_ H329_ s330_ u331_ f333_ q334_ => ?_)
                                  have H335_ : PI x m G323_ h328_ S332_ S332_.2.1 := by rw [f333_.2.2.2 (by decide)]; exact H329_
                                  refine l_lets ?_
                                  exact fin G323_ h328_ S332_ H335_ (by omega) (by omega) (by omega)
                                · skip
                                  refine l_om H320_ ?_
                                  refine l_r H320_ (tM_view_0 _ _ _ _ _ H320_.2.1.1) (nM_view H320_.2.1.2.1 (by decide)) (fun _ _ _ f => jj_fr f (by decide) (by decide) (by decide) (by decide) H320_.2.1.2.2.1) (fun r336_ h337_ S341_ H338_ s339_ u340_ f342_ q343_ => ?_)
                                  have H344_ : PI x m G323_ h337_ S341_ S341_.2.1 := by rw [f342_.2.2.2 (by decide)]; exact H338_
                                  refine l_lets ?_
                                  exact fin G323_ h337_ S341_ H344_ (by omega) (by omega) (by omega)
                              · skip
                                unfold fL_law_800
                                refine l_ox H ?_
                                refine l_cA H (kX11_view H.1.1 H.1.2 (by decide)) (by simp) (by simp) (fun r345_ h346_ G350_ H347_ s348_ u349_ s348_l => ?_)
                                refine l_nn X1 ?_
                                refine l_lets ?_
                                refine l_nn X2 ?_
                                refine l_lets ?_
                                refine l_if (fun c353_ => ?_) (fun c353_ => ?_)
                                · skip
                                  refine l_om H347_ ?_
                                  refine l_r H347_ (tM_view_0 _ _ _ _ _ H347_.2.1.1) (nM_view H347_.2.1.2.1 (by decide)) (fun _ _ _ f => jj_fr f (by decide) (by decide) (by decide) (by decide) H347_.2.1.2.2.1) (fun r354_ h355_ S359_ H356_ s357_ u358_ f360_ q361_ => ?_)
                                  have H362_ : PI x m G350_ h355_ S359_ S359_.2.1 := by rw [f360_.2.2.2 (by decide)]; exact H356_
                                  refine l_lets ?_
                                  exact fin G350_ h355_ S359_ H362_ (by omega) (by omega) (by omega)
                                · skip
                                  refine l_om H347_ ?_
                                  refine l_r H347_ (tM_view_0 _ _ _ _ _ H347_.2.1.1) (nM_view H347_.2.1.2.1 (by decide)) (fun _ _ _ f => jj_fr f (by decide) (by decide) (by decide) (by decide) H347_.2.1.2.2.1) (fun r363_ h364_ S368_ H365_ s366_ u367_ f369_ q370_ => ?_)
                                  have H371_ : PI x m G350_ h364_ S368_ S368_.2.1 := by rw [f369_.2.2.2 (by decide)]; exact H365_
                                  refine l_lets ?_
                                  exact fin G350_ h364_ S368_ H371_ (by omega) (by omega) (by omega)
                            · skip
                              refine l_if (fun c372_ => ?_) (fun c372_ => ?_)
                              · skip
                                refine l_nn X1 ?_
                                refine l_lets ?_
                                refine l_ox H ?_
                                refine l_cK (P := fun _ w => w = S.2.1) H (kX11_limit H.1.1 H.1.2) (by simp) (fk_of (kf16X11_limit H.1.1 H.1.2 H.2.2)) (fun r374_ h375_ w379_ H376_ w379_q s377_ u378_ => ?_)
                                subst w379_q
                                refine l_nn X1 ?_
                                refine l_lets ?_
                                refine l_om H376_ ?_
                                refine l_r H376_ (tM_limit_0 _ _ _ _ H376_.2.1.1) (nM_limit H376_.2.1.2.1) (fun _ _ _ f => jj_fr f (by decide) (by decide) (by decide) (by decide) H376_.2.1.2.2.1) (fun r381_ h382_ S386_ H383_ s384_ u385_ f387_ q388_ => ?_)
                                have H389_ : PI x m G h382_ S386_ S386_.2.1 := by rw [f387_.2.2.2 (by decide)]; exact H383_
                                refine l_lets ?_
                                exact fin G h382_ S386_ H389_ (by omega) (by omega) (by omega)
                              · skip
                                refine l_if (fun c390_ => ?_) (fun c390_ => ?_)
                                · skip
                                  refine l_nn X1 ?_
                                  refine l_lets ?_
                                  refine l_nn X2 ?_
                                  refine l_lets ?_
                                  refine l_ox H ?_
                                  refine l_cK (P := fun r w => (r, w) = tickN S.2.1 (((((xs (a3 + (1 : Int32)).toNatClampNeg).toInt64) <<< ((32 : Int32).toInt64 &&& 63)) ||| (((xs (a3 + (2 : Int32)).toNatClampNeg).toInt64) &&& (4294967295 : Int64))))) H (kX11_tick H.1.1 H.1.2) (by simp) (fl_tick H.1.1 H.1.2 H.2.2) (fun r393_ h394_ w398_ H395_ w398_q s396_ u397_ => ?_)
                                  refine l_nn X1 ?_
                                  refine l_lets ?_
                                  refine l_nn X2 ?_
                                  refine l_lets ?_
                                  refine l_om H395_ ?_
                                  refine l_r H395_ (tM_tick_0 _ _ _ _ H395_.2.1.1) (nM_tickQ H395_.2.1.2.1) (fun _ _ _ f => jj_fr f (by decide) (by decide) (by decide) (by decide) H395_.2.1.2.2.1) (fun r401_ h402_ S406_ H403_ s404_ u405_ f407_ q408_ => ?_)
                                  have e409_ := Prod.mk.inj (w398_q.trans q408_.symm)
                                  have H410_ : PI x m G h402_ S406_ S406_.2.1 := by rw [← e409_.2]; exact H403_
                                  rw [if_pos ((lg_cmp_0 _ _).mpr e409_.1)]
                                  refine l_lets ?_
                                  exact fin G h402_ S406_ H410_ (by omega) (by omega) (by omega)
                                · skip
                                  refine l_if (fun c412_ => ?_) (fun c412_ => ?_)
                                  · skip
                                    refine l_ox H ?_
                                    refine l_cW H (kX11_question H.1.1 H.1.2) (by simp) (by simp) (fun r413_ h414_ H415_ s416_ u417_ => ?_)
                                    refine l_om H415_ ?_
                                    refine l_r H415_ (tM_question_0 _ _ _ H415_.2.1.1) (nM_question H415_.2.1.2.1 H415_.2.1.2.2.1) (fun _ _ _ f => jj_fr f (by decide) (by decide) (by decide) (by decide) H415_.2.1.2.2.1) (fun r418_ h419_ S423_ H420_ s421_ u422_ f424_ q425_ => ?_)
                                    have H426_ : PI x m G h419_ S423_ S423_.2.1 := by rw [f424_.2.2.2 (by decide)]; exact H420_
                                    refine l_lets ?_
                                    exact fin G h419_ S423_ H426_ (by omega) (by omega) (by omega)
                                  · skip
                                    refine l_if (fun c427_ => ?_) (fun c427_ => ?_)
                                    · skip
                                      refine l_nn X1 ?_
                                      refine l_lets ?_
                                      refine l_ox H ?_
                                      refine l_cP (kX11_answer H.1.1 H.1.2) (fun r429_ => ?_)
                                      refine l_nn X1 ?_
                                      refine l_lets ?_
                                      refine l_om H ?_
                                      refine l_r H (tM_answer_0 _ _ _ _ H.2.1.1) (nM_answer H.2.1.2.1) (fun _ _ _ f => jj_fr f (by decide) (by decide) (by decide) (by decide) H.2.1.2.2.1) (fun r435_ h436_ S440_ H437_ s438_ u439_ f441_ q442_ => ?_)
                                      have H443_ : PI x m G h436_ S440_ S440_.2.1 := by rw [f441_.2.2.2 (by decide)]; exact H437_
                                      refine l_lets ?_
                                      exact fin G h436_ S440_ H443_ (by omega) (by omega) (by omega)
                                    · skip
                                      refine l_if (fun c444_ => ?_) (fun c444_ => ?_)
                                      · skip
                                        refine l_nn X1 ?_
                                        refine l_lets ?_
                                        refine l_ox H ?_
                                        refine l_cP (kX11_count H.1.1 H.1.2) (fun r446_ => ?_)
                                        refine l_nn X1 ?_
                                        refine l_lets ?_
                                        refine l_om H ?_
                                        refine l_r H (tM_count_0 _ _ _ _ H.2.1.1) (nM_count H.2.1.2.1) (fun _ _ _ f => jj_fr f (by decide) (by decide) (by decide) (by decide) H.2.1.2.2.1) (fun r452_ h453_ S457_ H454_ s455_ u456_ f458_ q459_ => ?_)
                                        have H460_ : PI x m G h453_ S457_ S457_.2.1 := by rw [f458_.2.2.2 (by decide)]; exact H454_
                                        refine l_lets ?_
                                        exact fin G h453_ S457_ H460_ (by omega) (by omega) (by omega)
                                      · skip
                                        refine l_if (fun c461_ => ?_) (fun c461_ => ?_)
                                        · skip
                                          refine l_nn X1 ?_
                                          refine l_lets ?_
                                          refine l_ox H ?_
                                          refine l_cP (kX11_rows H.1.1 H.1.2) (fun r463_ => ?_)
                                          refine l_nn X1 ?_
                                          refine l_lets ?_
                                          refine l_om H ?_
                                          refine l_r H (tM_rows_0 _ _ _ _ H.2.1.1) (nM_rows H.2.1.2.1) (fun _ _ _ f => jj_fr f (by decide) (by decide) (by decide) (by decide) H.2.1.2.2.1) (fun r469_ h470_ S474_ H471_ s472_ u473_ f475_ q476_ => ?_)
                                          have H477_ : PI x m G h470_ S474_ S474_.2.1 := by rw [f475_.2.2.2 (by decide)]; exact H471_
                                          refine l_lets ?_
                                          exact fin G h470_ S474_ H477_ (by omega) (by omega) (by omega)
                                        · skip
                                          refine l_if (fun c478_ => ?_) (fun c478_ => ?_)
                                          · skip
                                            refine l_nn X1 ?_
                                            refine l_lets ?_
                                            refine l_nn X2 ?_
                                            refine l_lets ?_
                                            refine l_ox H ?_
                                            refine l_cP (kX11_told H.1.1 H.1.2) (fun r481_ => ?_)
                                            refine l_nn X1 ?_
                                            refine l_lets ?_
                                            refine l_nn X2 ?_
                                            refine l_lets ?_
                                            refine l_om H ?_
                                            refine l_r H (tM_told_0 _ _ _ _ _ H.2.1.1) (nM_told H.2.1.2.1) (fun _ _ _ f => jj_fr f (by decide) (by decide) (by decide) (by decide) H.2.1.2.2.1) (fun r488_ h489_ S493_ H490_ s491_ u492_ f494_ q495_ => ?_)
                                            have H496_ : PI x m G h489_ S493_ S493_.2.1 := by rw [f494_.2.2.2 (by decide)]; exact H490_
                                            refine l_lets ?_
                                            exact fin G h489_ S493_ H496_ (by omega) (by omega) (by omega)
                                          · skip
                                            refine l_if (fun c497_ => ?_) (fun c497_ => ?_)
                                            · skip
                                              refine l_nn X1 ?_
                                              refine l_lets ?_
                                              refine l_nn X2 ?_
                                              refine l_lets ?_
                                              refine l_nn X3 ?_
                                              refine l_lets ?_
                                              refine l_ox H ?_
                                              refine l_cP (kX11_part H.1.1 H.1.2) (fun r501_ => ?_)
                                              refine l_nn X1 ?_
                                              refine l_lets ?_
                                              refine l_nn X2 ?_
                                              refine l_lets ?_
                                              refine l_nn X3 ?_
                                              refine l_lets ?_
                                              refine l_om H ?_
                                              refine l_r H (tM_part_0 _ _ _ _ _ _ H.2.1.1) (nM_part H.2.1.2.1) (fun _ _ _ f => jj_fr f (by decide) (by decide) (by decide) (by decide) H.2.1.2.2.1) (fun r509_ h510_ S514_ H511_ s512_ u513_ f515_ q516_ => ?_)
                                              have H517_ : PI x m G h510_ S514_ S514_.2.1 := by rw [f515_.2.2.2 (by decide)]; exact H511_
                                              refine l_lets ?_
                                              exact fin G h510_ S514_ H517_ (by omega) (by omega) (by omega)
                                            · skip
                                              refine l_lets ?_
                                              exact fin G h S H (by omega) (by omega) (by omega)
