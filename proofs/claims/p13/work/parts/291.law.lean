set_option maxRecDepth 100000 in
set_option maxHeartbeats 40000000 in
theorem law_loop {L : Nat} {xs : Nat → Int32} {sz x m tp it hp hi ca : Nat} (hL : L ≤ 4608) : ∀ (n : Nat) (a3 : Int32) (G : GT) (h : sm_H) (S : MS) (D : CD), PI x m tp it hp hi ca G h S D → KC S D → 0 ≤ a3.toInt → a3.toInt ≤ 4617 → sz ≤ h.1 → (h.1 : Int) - sz + 60 * (4617 - a3.toInt) ≤ 600000 → (h.2.1 : Int) + 800 * (4617 - a3.toInt) ≤ 7302250 → 4617 - a3.toInt < (n : Int) → lJ sz (fL_law_18 L xs n (some x) (some m) a3 h) := by
  have hLi : (Int32.ofNat L).toInt = (L : Int) := Int32.toInt_ofNat_of_lt (by omega)
  have L9 : (9 : Int32).toInt = 9 := rfl
  have hL9 : (Int32.ofNat L - 9).toInt = (L : Int) - 9 := by rw [i_sub (by omega) (by omega)]; omega
  intro n
  induction n with
  | zero => intro a3 G h S D H K p0 p1 p2 p3 p4 q; exfalso; omega
  | succ n ih =>
    intro a3 G h S D H K p0 p1 p2 p3 p4 q
    unfold fL_law_18
    refine l_if (fun c => ?_) (fun c => ?_)
    · exact ⟨h, rfl, by omega, by omega⟩
    · have c1 : a3.toInt ≤ (L : Int) - 9 := by rw [Int32.lt_iff_toInt_lt, hL9] at c; omega
      have k1 : (a3 + (1 : Int32)).toInt = a3.toInt + 1 := by rw [i_add (by rw [show (1 : Int32).toInt = 1 from rfl]; omega) (by rw [show (1 : Int32).toInt = 1 from rfl]; omega)]; rfl
      have k2 : (a3 + (2 : Int32)).toInt = a3.toInt + 2 := by rw [i_add (by rw [show (2 : Int32).toInt = 2 from rfl]; omega) (by rw [show (2 : Int32).toInt = 2 from rfl]; omega)]; rfl
      have k3 : (a3 + (3 : Int32)).toInt = a3.toInt + 3 := by rw [i_add (by rw [show (3 : Int32).toInt = 3 from rfl]; omega) (by rw [show (3 : Int32).toInt = 3 from rfl]; omega)]; rfl
      have k4 : (a3 + (4 : Int32)).toInt = a3.toInt + 4 := by rw [i_add (by rw [show (4 : Int32).toInt = 4 from rfl]; omega) (by rw [show (4 : Int32).toInt = 4 from rfl]; omega)]; rfl
      have k5 : (a3 + (5 : Int32)).toInt = a3.toInt + 5 := by rw [i_add (by rw [show (5 : Int32).toInt = 5 from rfl]; omega) (by rw [show (5 : Int32).toInt = 5 from rfl]; omega)]; rfl
      have k6 : (a3 + (6 : Int32)).toInt = a3.toInt + 6 := by rw [i_add (by rw [show (6 : Int32).toInt = 6 from rfl]; omega) (by rw [show (6 : Int32).toInt = 6 from rfl]; omega)]; rfl
      have k7 : (a3 + (7 : Int32)).toInt = a3.toInt + 7 := by rw [i_add (by rw [show (7 : Int32).toInt = 7 from rfl]; omega) (by rw [show (7 : Int32).toInt = 7 from rfl]; omega)]; rfl
      have k8 : (a3 + (8 : Int32)).toInt = a3.toInt + 8 := by rw [i_add (by rw [show (8 : Int32).toInt = 8 from rfl]; omega) (by rw [show (8 : Int32).toInt = 8 from rfl]; omega)]; rfl
      have k9 : (a3 + (9 : Int32)).toInt = a3.toInt + 9 := by rw [i_add (by rw [show (9 : Int32).toInt = 9 from rfl]; omega) (by rw [show (9 : Int32).toInt = 9 from rfl]; omega)]; rfl
      have fin : ∀ (G2 : GT) (h2 : sm_H) (S2 : MS) (D2 : CD), PI x m tp it hp hi ca G2 h2 S2 D2 → KC S2 D2 → h.1 ≤ h2.1 → h2.1 ≤ h.1 + 60 → h2.2.1 ≤ h.2.1 + 800 → lJ sz (fL_law_18 L xs n (some x) (some m) (a3 + (9 : Int32)) h2) := by
        intro G2 h2 S2 D2 H2 K2 t1 t2 t3
        clear k1 k2 k3 k4 k5 k6 k7 k8 c H
        exact ih (a3 + (9 : Int32)) G2 h2 S2 D2 H2 K2 (by rw [k9]; omega) (by rw [k9]; omega) (by omega) (by rw [k9]; omega) (by rw [k9]; omega) (by rw [k9]; omega)
      have X0 : ¬ (a3 < 0 ∨ L ≤ a3.toNatClampNeg) := n_ix (by omega) (by omega)
      have X1 : ¬ ((a3 + (1 : Int32)) < 0 ∨ L ≤ (a3 + (1 : Int32)).toNatClampNeg) := n_ix (by omega) (by omega)
      have X2 : ¬ ((a3 + (2 : Int32)) < 0 ∨ L ≤ (a3 + (2 : Int32)).toNatClampNeg) := n_ix (by omega) (by omega)
      have X3 : ¬ ((a3 + (3 : Int32)) < 0 ∨ L ≤ (a3 + (3 : Int32)).toNatClampNeg) := n_ix (by omega) (by omega)
      have X4 : ¬ ((a3 + (4 : Int32)) < 0 ∨ L ≤ (a3 + (4 : Int32)).toNatClampNeg) := n_ix (by omega) (by omega)
      have X5 : ¬ ((a3 + (5 : Int32)) < 0 ∨ L ≤ (a3 + (5 : Int32)).toNatClampNeg) := n_ix (by omega) (by omega)
      have X6 : ¬ ((a3 + (6 : Int32)) < 0 ∨ L ≤ (a3 + (6 : Int32)).toNatClampNeg) := n_ix (by omega) (by omega)
      have X7 : ¬ ((a3 + (7 : Int32)) < 0 ∨ L ≤ (a3 + (7 : Int32)).toNatClampNeg) := n_ix (by omega) (by omega)
      have X8 : ¬ ((a3 + (8 : Int32)) < 0 ∨ L ≤ (a3 + (8 : Int32)).toNatClampNeg) := n_ix (by omega) (by omega)
      clear hL9 hLi L9 c k1 k2 k3 k4 k5 k6 k7 k8 k9 ih p0 p1 p2 p3 p4 q c1
      refine l_nn X0 ?_
      refine l_lets ?_
      refine l_let (fun x1_ => ?_)
      refine l_if (fun c2_ => ?_) (fun c2_ => ?_)
      · skip
        refine l_nn X1 ?_
        refine l_lets ?_
        refine l_nn X2 ?_
        refine l_lets ?_
        refine l_nn X3 ?_
        refine l_lets ?_
        refine l_ox H ?_
        refine l_F H (RA_W (kX11_feed H.1.1 H.1.2.1)) (by simp) (by decide) (by decide) (by decide) (fun r3_ h4_ G8_ D9_ H5_ p10_ s6_ u7_ s6_l => ?_)
        refine l_nn X1 ?_
        refine l_lets ?_
        refine l_nn X2 ?_
        refine l_lets ?_
        refine l_nn X3 ?_
        refine l_lets ?_
        refine l_om H5_ ?_
        refine l_r H5_ (tM_feed_0 _ _ _ _ _ H5_.2.1.1) (nM_feedL H5_.2.1.2.1 K.1) (fun _ _ _ f => jj_fr f (by decide) (by decide) (by decide) (by decide) H5_.2.1.2.2.1) (fun r12_ h13_ S20_ H14_ s15_ u16_ f21_ q22_ => ?_)
        have K23_ := kc_f f21_ (by decide) p10_ q22_ K
        refine l_lets ?_
        exact fin G8_ h13_ S20_ D9_ H14_ K23_.2 (by omega) (by omega) (by omega)
      · skip
        refine l_if (fun c24_ => ?_) (fun c24_ => ?_)
        · skip
          refine l_nn X1 ?_
          refine l_lets ?_
          refine l_nn X2 ?_
          refine l_lets ?_
          refine l_ox H ?_
          refine l_N H K (RA_W (kX11_number H.1.1 H.1.2.1)) (by simp) (by decide) (by decide) (by decide) (fun r25_ h26_ G30_ D31_ H27_ p32_ s28_ u29_ s28_l => ?_)
          refine l_nn X1 ?_
          refine l_lets ?_
          refine l_nn X2 ?_
          refine l_lets ?_
          refine l_om H27_ ?_
          refine l_r H27_ (tM_number_0 _ _ _ _ H27_.2.1.1) (nM_numberQ H27_.2.1.2.1) (fun _ _ _ f => jj_fr f (by decide) (by decide) (by decide) (by decide) H27_.2.1.2.2.1) (fun r34_ h35_ S42_ H36_ s37_ u38_ f43_ q44_ => ?_)
          have K45_ := kc_n f43_ (by decide) p32_ q44_ K
          refine l_lets ?_
          exact fin G30_ h35_ S42_ D31_ H36_ K45_.2 (by omega) (by omega) (by omega)
        · skip
          refine l_if (fun c46_ => ?_) (fun c46_ => ?_)
          · skip
            refine l_nn X1 ?_
            refine l_lets ?_
            refine l_nn X2 ?_
            refine l_lets ?_
            refine l_nn X3 ?_
            refine l_lets ?_
            refine l_nn X4 ?_
            refine l_lets ?_
            refine l_nn X5 ?_
            refine l_lets ?_
            refine l_nn X6 ?_
            refine l_lets ?_
            refine l_ox H ?_
            refine l_H0 H (kX11_scalar H.1.1 H.1.2.1) (by simp) (hz_scalar H.1.1 H.1.2.1 H.1.2.2.2.1 H.2.2.2.1) (by decide) (by decide) (by decide) (fun r47_ h48_ G52_ H49_ s50_ u51_ s50_l => ?_)
            refine l_nn X1 ?_
            refine l_lets ?_
            refine l_nn X2 ?_
            refine l_lets ?_
            refine l_nn X3 ?_
            refine l_lets ?_
            refine l_nn X4 ?_
            refine l_lets ?_
            refine l_nn X5 ?_
            refine l_lets ?_
            refine l_nn X6 ?_
            refine l_lets ?_
            refine l_om H49_ ?_
            refine l_r H49_ (tM_scalar_0 _ _ _ _ _ _ _ H49_.2.1.1) (nM_scalar H49_.2.1.2.1) (fun r S1 e _ => jj_scalar H49_.2.1.2.1 H49_.2.1.2.2.1 e) (fun r55_ h56_ S63_ H57_ s58_ u59_ f64_ q65_ => ?_)
            have K66_ := kc_h0 f64_ (by decide) q65_ K
            refine l_lets ?_
            exact fin G52_ h56_ S63_ (D.1, 0, D.2.2) H57_ K66_ (by omega) (by omega) (by omega)
          · skip
            refine l_if (fun c67_ => ?_) (fun c67_ => ?_)
            · skip
              refine l_ox H ?_
              refine l_H0 H (kX11_table H.1.1 H.1.2.1) (by simp) (hz_table H.1.1 H.1.2.1 H.1.2.2.2.1 H.2.2.2.1) (by decide) (by decide) (by decide) (fun r68_ h69_ G73_ H70_ s71_ u72_ s71_l => ?_)
              refine l_om H70_ ?_
              refine l_r H70_ (tM_table_0 _ _ _ H70_.2.1.1) (nM_table H70_.2.1.2.1) (fun _ _ _ f => jj_fr f (by decide) (by decide) (by decide) (by decide) H70_.2.1.2.2.1) (fun r76_ h77_ S84_ H78_ s79_ u80_ f85_ q86_ => ?_)
              have K87_ := kc_h0 f85_ (by decide) q86_ K
              refine l_lets ?_
              exact fin G73_ h77_ S84_ (D.1, 0, D.2.2) H78_ K87_ (by omega) (by omega) (by omega)
            · skip
              refine l_if (fun c88_ => ?_) (fun c88_ => ?_)
              · skip
                refine l_nn X1 ?_
                refine l_lets ?_
                refine l_nn X2 ?_
                refine l_lets ?_
                refine l_nn X3 ?_
                refine l_lets ?_
                refine l_nn X4 ?_
                refine l_lets ?_
                refine l_nn X5 ?_
                refine l_lets ?_
                refine l_nn X6 ?_
                refine l_lets ?_
                refine l_nn X7 ?_
                refine l_lets ?_
                refine l_nn X8 ?_
                refine l_lets ?_
                refine l_ox H ?_
                refine l_K H (kX11_column H.1.1 H.1.2.1) (by simp) (by decide) (by decide) (by decide) (by decide) (fun r89_ h90_ G94_ H91_ s92_ u93_ s92_l => ?_)
                refine l_nn X1 ?_
                refine l_lets ?_
                refine l_nn X2 ?_
                refine l_lets ?_
                refine l_nn X3 ?_
                refine l_lets ?_
                refine l_nn X4 ?_
                refine l_lets ?_
                refine l_nn X5 ?_
                refine l_lets ?_
                refine l_nn X6 ?_
                refine l_lets ?_
                refine l_nn X7 ?_
                refine l_lets ?_
                refine l_nn X8 ?_
                refine l_lets ?_
                refine l_om H91_ ?_
                refine l_r H91_ (tM_column_0 _ _ _ _ _ _ _ _ _ H91_.2.1.1) (nM_column H91_.2.1.2.1) (fun r S1 e _ => jj_column H91_.2.1.2.1 H91_.2.1.2.2.1 e) (fun r97_ h98_ S105_ H99_ s100_ u101_ f106_ q107_ => ?_)
                have K108_ := kc_fr f106_ (by decide) K
                refine l_lets ?_
                exact fin G94_ h98_ S105_ D H99_ K108_ (by omega) (by omega) (by omega)
              · skip
                refine l_if (fun c109_ => ?_) (fun c109_ => ?_)
                · skip
                  refine l_nn X1 ?_
                  refine l_lets ?_
                  refine l_nn X2 ?_
                  refine l_lets ?_
                  refine l_ox H ?_
                  refine l_K H (kX11_status H.1.1 H.1.2.1) (by simp) (by decide) (by decide) (by decide) (by decide) (fun r110_ h111_ G115_ H112_ s113_ u114_ s113_l => ?_)
                  refine l_nn X1 ?_
                  refine l_lets ?_
                  refine l_nn X2 ?_
                  refine l_lets ?_
                  refine l_om H112_ ?_
                  refine l_r H112_ (tM_status_0 _ _ _ _ _ H112_.2.1.1) (nM_status H112_.2.1.2.1) (fun r S1 e _ => jj_status H112_.2.1.2.1 H112_.2.1.2.2.1 e) (fun r118_ h119_ S126_ H120_ s121_ u122_ f127_ q128_ => ?_)
                  have K129_ := kc_fr f127_ (by decide) K
                  refine l_lets ?_
                  exact fin G115_ h119_ S126_ D H120_ K129_ (by omega) (by omega) (by omega)
                · skip
                  refine l_if (fun c130_ => ?_) (fun c130_ => ?_)
                  · skip
                    refine l_nn X1 ?_
                    refine l_lets ?_
                    refine l_nn X2 ?_
                    refine l_lets ?_
                    refine l_nn X3 ?_
                    refine l_lets ?_
                    refine l_if (fun c131_ => ?_) (fun c131_ => ?_)
                    · skip
                      unfold fL_law_568
                      refine l_ox H ?_
                      refine l_K H (RA_W (kX11_row H.1.1 H.1.2.1 (by decide))) (by simp) (by decide) (by decide) (by decide) (by decide) (fun r132_ h133_ G137_ H134_ s135_ u136_ s135_l => ?_)
                      refine l_nn X1 ?_
                      refine l_lets ?_
                      refine l_nn X2 ?_
                      refine l_lets ?_
                      refine l_nn X3 ?_
                      refine l_lets ?_
                      refine l_if (fun c140_ => ?_) (fun c140_ => ?_)
                      · skip
                        refine l_om H134_ ?_
                        refine l_r H134_ (tM_row_0 _ _ _ _ _ _ H134_.2.1.1) (nM_row H134_.2.1.2.1 (by decide)) (fun _ _ _ f => jj_fr f (by decide) (by decide) (by decide) (by decide) H134_.2.1.2.2.1) (fun r141_ h142_ S149_ H143_ s144_ u145_ f150_ q151_ => ?_)
                        have K152_ := kc_fr f150_ (by decide) K
                        refine l_lets ?_
                        exact fin G137_ h142_ S149_ D H143_ K152_ (by omega) (by omega) (by omega)
                      · skip
                        refine l_om H134_ ?_
                        refine l_r H134_ (tM_row_0 _ _ _ _ _ _ H134_.2.1.1) (nM_row H134_.2.1.2.1 (by decide)) (fun _ _ _ f => jj_fr f (by decide) (by decide) (by decide) (by decide) H134_.2.1.2.2.1) (fun r153_ h154_ S161_ H155_ s156_ u157_ f162_ q163_ => ?_)
                        have K164_ := kc_fr f162_ (by decide) K
                        refine l_lets ?_
                        exact fin G137_ h154_ S161_ D H155_ K164_ (by omega) (by omega) (by omega)
                    · skip
                      unfold fL_law_568
                      refine l_ox H ?_
                      refine l_K H (RA_W (kX11_row H.1.1 H.1.2.1 (by decide))) (by simp) (by decide) (by decide) (by decide) (by decide) (fun r165_ h166_ G170_ H167_ s168_ u169_ s168_l => ?_)
                      refine l_nn X1 ?_
                      refine l_lets ?_
                      refine l_nn X2 ?_
                      refine l_lets ?_
                      refine l_nn X3 ?_
                      refine l_lets ?_
                      refine l_if (fun c173_ => ?_) (fun c173_ => ?_)
                      · skip
                        refine l_om H167_ ?_
                        refine l_r H167_ (tM_row_0 _ _ _ _ _ _ H167_.2.1.1) (nM_row H167_.2.1.2.1 (by decide)) (fun _ _ _ f => jj_fr f (by decide) (by decide) (by decide) (by decide) H167_.2.1.2.2.1) (fun r174_ h175_ S182_ H176_ s177_ u178_ f183_ q184_ => ?_)
                        have K185_ := kc_fr f183_ (by decide) K
                        refine l_lets ?_
                        exact fin G170_ h175_ S182_ D H176_ K185_ (by omega) (by omega) (by omega)
                      · skip
                        refine l_om H167_ ?_
                        refine l_r H167_ (tM_row_0 _ _ _ _ _ _ H167_.2.1.1) (nM_row H167_.2.1.2.1 (by decide)) (fun _ _ _ f => jj_fr f (by decide) (by decide) (by decide) (by decide) H167_.2.1.2.2.1) (fun r186_ h187_ S194_ H188_ s189_ u190_ f195_ q196_ => ?_)
                        have K197_ := kc_fr f195_ (by decide) K
                        refine l_lets ?_
                        exact fin G170_ h187_ S194_ D H188_ K197_ (by omega) (by omega) (by omega)
                  · skip
                    refine l_if (fun c198_ => ?_) (fun c198_ => ?_)
                    · skip
                      refine l_nn X1 ?_
                      refine l_lets ?_
                      refine l_nn X2 ?_
                      refine l_lets ?_
                      refine l_nn X3 ?_
                      refine l_lets ?_
                      refine l_nn X4 ?_
                      refine l_lets ?_
                      refine l_ox H ?_
                      refine l_K H (RA_W (kX11_value H.1.1 H.1.2.1)) (by simp) (by decide) (by decide) (by decide) (by decide) (fun r199_ h200_ G204_ H201_ s202_ u203_ s202_l => ?_)
                      refine l_nn X1 ?_
                      refine l_lets ?_
                      refine l_nn X2 ?_
                      refine l_lets ?_
                      refine l_nn X3 ?_
                      refine l_lets ?_
                      refine l_nn X4 ?_
                      refine l_lets ?_
                      refine l_om H201_ ?_
                      refine l_r H201_ (tM_value_0 _ _ _ _ _ _ H201_.2.1.1) (nM_value H201_.2.1.2.1) (fun _ _ _ f => jj_fr f (by decide) (by decide) (by decide) (by decide) H201_.2.1.2.2.1) (fun r207_ h208_ S215_ H209_ s210_ u211_ f216_ q217_ => ?_)
                      have K218_ := kc_fr f216_ (by decide) K
                      refine l_lets ?_
                      exact fin G204_ h208_ S215_ D H209_ K218_ (by omega) (by omega) (by omega)
                    · skip
                      refine l_if (fun c219_ => ?_) (fun c219_ => ?_)
                      · skip
                        refine l_nn X1 ?_
                        refine l_lets ?_
                        refine l_nn X2 ?_
                        refine l_lets ?_
                        refine l_ox H ?_
                        refine l_T0 H (RA_W (kX11_text H.1.1 H.1.2.1)) (by simp) (fun ts q => tz_text H.1.1 H.1.2.1 H.1.2.2.1.1 q) (by decide) (by decide) (by decide) (fun r220_ h221_ G225_ H222_ s223_ u224_ s223_l => ?_)
                        refine l_nn X1 ?_
                        refine l_lets ?_
                        refine l_nn X2 ?_
                        refine l_lets ?_
                        refine l_om H222_ ?_
                        refine l_r H222_ (tM_text_0 _ _ _ _ _ H222_.2.1.1) (nM_text H222_.2.1.2.1) (fun _ _ _ f => jj_fr f (by decide) (by decide) (by decide) (by decide) H222_.2.1.2.2.1) (fun r228_ h229_ S236_ H230_ s231_ u232_ f237_ q238_ => ?_)
                        have K239_ := kc_t0 f237_ (by decide) q238_ K
                        refine l_lets ?_
                        exact fin G225_ h229_ S236_ ([], D.2) H230_ K239_ (by omega) (by omega) (by omega)
                      · skip
                        refine l_if (fun c240_ => ?_) (fun c240_ => ?_)
                        · skip
                          refine l_nn X1 ?_
                          refine l_lets ?_
                          refine l_nn X2 ?_
                          refine l_lets ?_
                          refine l_ox H ?_
                          refine l_H0 H (RA_W (kX11_identity H.1.1 H.1.2.1)) (by simp) (hz_identity H.1.1 H.1.2.1 H.1.2.2.2.1 H.2.2.2.1) (by decide) (by decide) (by decide) (fun r241_ h242_ G246_ H243_ s244_ u245_ s244_l => ?_)
                          refine l_nn X1 ?_
                          refine l_lets ?_
                          refine l_nn X2 ?_
                          refine l_lets ?_
                          refine l_om H243_ ?_
                          refine l_r H243_ (tM_identity_0 _ _ _ _ _ H243_.2.1.1) (nM_identity H243_.2.1.2.1) (fun _ _ _ f => jj_fr f (by decide) (by decide) (by decide) (by decide) H243_.2.1.2.2.1) (fun r249_ h250_ S257_ H251_ s252_ u253_ f258_ q259_ => ?_)
                          have K260_ := kc_h0 f258_ (by decide) q259_ K
                          refine l_lets ?_
                          exact fin G246_ h250_ S257_ (D.1, 0, D.2.2) H251_ K260_ (by omega) (by omega) (by omega)
                        · skip
                          refine l_if (fun c261_ => ?_) (fun c261_ => ?_)
                          · skip
                            refine l_nn X1 ?_
                            refine l_lets ?_
                            refine l_if (fun c262_ => ?_) (fun c262_ => ?_)
                            · skip
                              unfold fL_law_756
                              refine l_ox H ?_
                              refine l_C H K (by decide) (kX11_community H.1.1 H.1.2.1 (by decide)) (by simp) (fun r263_ h264_ G268_ D269_ H265_ p270_ s266_ u267_ s266_l => ?_)
                              refine l_nn X1 ?_
                              refine l_lets ?_
                              refine l_if (fun c272_ => ?_) (fun c272_ => ?_)
                              · skip
                                refine l_om H265_ ?_
                                refine l_r H265_ (tM_community_0 _ _ _ _ H265_.2.1.1) (nM_communityQ H265_.2.1.2.1 (by decide) K.1 K.2.2.1) (fun _ _ _ f => jj_fr f (by decide) (by decide) (by decide) (by decide) H265_.2.1.2.2.1) (fun r273_ h274_ S281_ H275_ s276_ u277_ f282_ q283_ => ?_)
                                have K284_ := kc_c f282_ (by decide) p270_ q283_ K
                                refine l_lets ?_
                                exact fin G268_ h274_ S281_ D269_ H275_ K284_.2 (by omega) (by omega) (by omega)
                              · skip
                                refine l_om H265_ ?_
                                refine l_r H265_ (tM_community_0 _ _ _ _ H265_.2.1.1) (nM_communityQ H265_.2.1.2.1 (by decide) K.1 K.2.2.1) (fun _ _ _ f => jj_fr f (by decide) (by decide) (by decide) (by decide) H265_.2.1.2.2.1) (fun r285_ h286_ S293_ H287_ s288_ u289_ f294_ q295_ => ?_)
                                have K296_ := kc_c f294_ (by decide) p270_ q295_ K
                                refine l_lets ?_
                                exact fin G268_ h286_ S293_ D269_ H287_ K296_.2 (by omega) (by omega) (by omega)
                            · skip
                              unfold fL_law_756
                              refine l_ox H ?_
                              refine l_C H K (by decide) (kX11_community H.1.1 H.1.2.1 (by decide)) (by simp) (fun r297_ h298_ G302_ D303_ H299_ p304_ s300_ u301_ s300_l => ?_)
                              refine l_nn X1 ?_
                              refine l_lets ?_
                              refine l_if (fun c306_ => ?_) (fun c306_ => ?_)
                              · skip
                                refine l_om H299_ ?_
                                refine l_r H299_ (tM_community_0 _ _ _ _ H299_.2.1.1) (nM_communityQ H299_.2.1.2.1 (by decide) K.1 K.2.2.1) (fun _ _ _ f => jj_fr f (by decide) (by decide) (by decide) (by decide) H299_.2.1.2.2.1) (fun r307_ h308_ S315_ H309_ s310_ u311_ f316_ q317_ => ?_)
                                have K318_ := kc_c f316_ (by decide) p304_ q317_ K
                                refine l_lets ?_
                                exact fin G302_ h308_ S315_ D303_ H309_ K318_.2 (by omega) (by omega) (by omega)
                              · skip
                                refine l_om H299_ ?_
                                refine l_r H299_ (tM_community_0 _ _ _ _ H299_.2.1.1) (nM_communityQ H299_.2.1.2.1 (by decide) K.1 K.2.2.1) (fun _ _ _ f => jj_fr f (by decide) (by decide) (by decide) (by decide) H299_.2.1.2.2.1) (fun r319_ h320_ S327_ H321_ s322_ u323_ f328_ q329_ => ?_)
                                have K330_ := kc_c f328_ (by decide) p304_ q329_ K
                                refine l_lets ?_
                                exact fin G302_ h320_ S327_ D303_ H321_ K330_.2 (by omega) (by omega) (by omega)
                          · skip
                            refine l_if (fun c331_ => ?_) (fun c331_ => ?_)
                            · skip
                              refine l_nn X1 ?_
                              refine l_lets ?_
                              refine l_nn X2 ?_
                              refine l_lets ?_
                              refine l_if (fun c332_ => ?_) (fun c332_ => ?_)
                              · skip
                                unfold fL_law_800
                                refine l_ox H ?_
                                refine l_V H K (by decide) (kX11_view H.1.1 H.1.2.1 (by decide)) (by simp) (by decide) (by decide) (by decide) (by decide) (by decide) (fun r333_ h334_ G338_ D339_ H335_ p340_ s336_ u337_ s336_l => ?_)
                                refine l_nn X1 ?_
                                refine l_lets ?_
                                refine l_nn X2 ?_
                                refine l_lets ?_
                                refine l_if (fun c342_ => ?_) (fun c342_ => ?_)
                                · skip
                                  refine l_om H335_ ?_
                                  refine l_r H335_ (tM_view_0 _ _ _ _ _ H335_.2.1.1) (nM_viewQ H335_.2.1.2.1 (by decide) K.2.2.1.1 K.2.2.1.2.1 K.2.1 K.2.2.2) (fun _ _ _ f => jj_fr f (by decide) (by decide) (by decide) (by decide) H335_.2.1.2.2.1) (fun r343_ h344_ S351_ H345_ s346_ u347_ f352_ q353_ => ?_)
                                  have K354_ := kc_v f352_ (by decide) p340_ q353_ K
                                  rw [if_pos K354_.1]
                                  refine l_lets ?_
                                  exact fin G338_ h344_ S351_ D339_ H345_ K354_.2 (by omega) (by omega) (by omega)
                                · skip
                                  refine l_om H335_ ?_
                                  refine l_r H335_ (tM_view_0 _ _ _ _ _ H335_.2.1.1) (nM_viewQ H335_.2.1.2.1 (by decide) K.2.2.1.1 K.2.2.1.2.1 K.2.1 K.2.2.2) (fun _ _ _ f => jj_fr f (by decide) (by decide) (by decide) (by decide) H335_.2.1.2.2.1) (fun r356_ h357_ S364_ H358_ s359_ u360_ f365_ q366_ => ?_)
                                  have K367_ := kc_v f365_ (by decide) p340_ q366_ K
                                  rw [if_pos K367_.1]
                                  refine l_lets ?_
                                  exact fin G338_ h357_ S364_ D339_ H358_ K367_.2 (by omega) (by omega) (by omega)
                              · skip
                                unfold fL_law_800
                                refine l_ox H ?_
                                refine l_V H K (by decide) (kX11_view H.1.1 H.1.2.1 (by decide)) (by simp) (by decide) (by decide) (by decide) (by decide) (by decide) (fun r369_ h370_ G374_ D375_ H371_ p376_ s372_ u373_ s372_l => ?_)
                                refine l_nn X1 ?_
                                refine l_lets ?_
                                refine l_nn X2 ?_
                                refine l_lets ?_
                                refine l_if (fun c378_ => ?_) (fun c378_ => ?_)
                                · skip
                                  refine l_om H371_ ?_
                                  refine l_r H371_ (tM_view_0 _ _ _ _ _ H371_.2.1.1) (nM_viewQ H371_.2.1.2.1 (by decide) K.2.2.1.1 K.2.2.1.2.1 K.2.1 K.2.2.2) (fun _ _ _ f => jj_fr f (by decide) (by decide) (by decide) (by decide) H371_.2.1.2.2.1) (fun r379_ h380_ S387_ H381_ s382_ u383_ f388_ q389_ => ?_)
                                  have K390_ := kc_v f388_ (by decide) p376_ q389_ K
                                  rw [if_pos K390_.1]
                                  refine l_lets ?_
                                  exact fin G374_ h380_ S387_ D375_ H381_ K390_.2 (by omega) (by omega) (by omega)
                                · skip
                                  refine l_om H371_ ?_
                                  refine l_r H371_ (tM_view_0 _ _ _ _ _ H371_.2.1.1) (nM_viewQ H371_.2.1.2.1 (by decide) K.2.2.1.1 K.2.2.1.2.1 K.2.1 K.2.2.2) (fun _ _ _ f => jj_fr f (by decide) (by decide) (by decide) (by decide) H371_.2.1.2.2.1) (fun r392_ h393_ S400_ H394_ s395_ u396_ f401_ q402_ => ?_)
                                  have K403_ := kc_v f401_ (by decide) p376_ q402_ K
                                  rw [if_pos K403_.1]
                                  refine l_lets ?_
                                  exact fin G374_ h393_ S400_ D375_ H394_ K403_.2 (by omega) (by omega) (by omega)
                            · skip
                              refine l_if (fun c405_ => ?_) (fun c405_ => ?_)
                              · skip
                                refine l_nn X1 ?_
                                refine l_lets ?_
                                refine l_ox H ?_
                                refine l_L H (RA_W (kX11_limit H.1.1 H.1.2.1)) (by simp) (lk_limit H.1.1 H.1.2.1) (by decide) (by decide) (by decide) (fun r406_ h407_ G411_ H408_ s409_ u410_ s409_l => ?_)
                                refine l_nn X1 ?_
                                refine l_lets ?_
                                refine l_om H408_ ?_
                                refine l_r H408_ (tM_limit_0 _ _ _ _ H408_.2.1.1) (nM_limit H408_.2.1.2.1) (fun _ _ _ f => jj_fr f (by decide) (by decide) (by decide) (by decide) H408_.2.1.2.2.1) (fun r414_ h415_ S422_ H416_ s417_ u418_ f423_ q424_ => ?_)
                                have K425_ := kc_fr f423_ (by decide) K
                                refine l_lets ?_
                                exact fin G411_ h415_ S422_ D H416_ K425_ (by omega) (by omega) (by omega)
                              · skip
                                refine l_if (fun c426_ => ?_) (fun c426_ => ?_)
                                · skip
                                  refine l_nn X1 ?_
                                  refine l_lets ?_
                                  refine l_nn X2 ?_
                                  refine l_lets ?_
                                  refine l_ox H ?_
                                  refine l_L H (RA_W (kX11_tick H.1.1 H.1.2.1)) (by simp) (lk_tick H.1.1 H.1.2.1) (by decide) (by decide) (by decide) (fun r427_ h428_ G432_ H429_ s430_ u431_ s430_l => ?_)
                                  refine l_nn X1 ?_
                                  refine l_lets ?_
                                  refine l_nn X2 ?_
                                  refine l_lets ?_
                                  refine l_om H429_ ?_
                                  refine l_r H429_ (tM_tick_0 _ _ _ _ H429_.2.1.1) (nM_tick H429_.2.1.2.1) (fun _ _ _ f => jj_fr f (by decide) (by decide) (by decide) (by decide) H429_.2.1.2.2.1) (fun r435_ h436_ S443_ H437_ s438_ u439_ f444_ q445_ => ?_)
                                  have K446_ := kc_fr f444_ (by decide) K
                                  refine l_lets ?_
                                  exact fin G432_ h436_ S443_ D H437_ K446_ (by omega) (by omega) (by omega)
                                · skip
                                  refine l_if (fun c447_ => ?_) (fun c447_ => ?_)
                                  · skip
                                    refine l_ox H ?_
                                    refine l_T0 H (RA_W (kX11_question H.1.1 H.1.2.1)) (by simp) (fun ts q => tz_question H.1.1 H.1.2.1 H.1.2.2.1.1 q) (by decide) (by decide) (by decide) (fun r448_ h449_ G453_ H450_ s451_ u452_ s451_l => ?_)
                                    refine l_om H450_ ?_
                                    refine l_r H450_ (tM_question_0 _ _ _ H450_.2.1.1) (nM_question H450_.2.1.2.1 H450_.2.1.2.2.1) (fun _ _ _ f => jj_fr f (by decide) (by decide) (by decide) (by decide) H450_.2.1.2.2.1) (fun r456_ h457_ S464_ H458_ s459_ u460_ f465_ q466_ => ?_)
                                    have K467_ := kc_t0 f465_ (by decide) q466_ K
                                    refine l_lets ?_
                                    exact fin G453_ h457_ S464_ ([], D.2) H458_ K467_ (by omega) (by omega) (by omega)
                                  · skip
                                    refine l_if (fun c468_ => ?_) (fun c468_ => ?_)
                                    · skip
                                      refine l_nn X1 ?_
                                      refine l_lets ?_
                                      refine l_ox H ?_
                                      refine l_cP (kX11_answer H.1.1 H.1.2.1) (fun r469_ => ?_)
                                      refine l_nn X1 ?_
                                      refine l_lets ?_
                                      refine l_om H ?_
                                      refine l_r H (tM_answer_0 _ _ _ _ H.2.1.1) (nM_answer H.2.1.2.1) (fun _ _ _ f => jj_fr f (by decide) (by decide) (by decide) (by decide) H.2.1.2.2.1) (fun r477_ h478_ S485_ H479_ s480_ u481_ f486_ q487_ => ?_)
                                      have K488_ := kc_fr f486_ (by decide) K
                                      refine l_lets ?_
                                      exact fin G h478_ S485_ D H479_ K488_ (by omega) (by omega) (by omega)
                                    · skip
                                      refine l_if (fun c489_ => ?_) (fun c489_ => ?_)
                                      · skip
                                        refine l_nn X1 ?_
                                        refine l_lets ?_
                                        refine l_ox H ?_
                                        refine l_cP (kX11_count H.1.1 H.1.2.1) (fun r490_ => ?_)
                                        refine l_nn X1 ?_
                                        refine l_lets ?_
                                        refine l_om H ?_
                                        refine l_r H (tM_count_0 _ _ _ _ H.2.1.1) (nM_count H.2.1.2.1) (fun _ _ _ f => jj_fr f (by decide) (by decide) (by decide) (by decide) H.2.1.2.2.1) (fun r498_ h499_ S506_ H500_ s501_ u502_ f507_ q508_ => ?_)
                                        have K509_ := kc_fr f507_ (by decide) K
                                        refine l_lets ?_
                                        exact fin G h499_ S506_ D H500_ K509_ (by omega) (by omega) (by omega)
                                      · skip
                                        refine l_if (fun c510_ => ?_) (fun c510_ => ?_)
                                        · skip
                                          refine l_nn X1 ?_
                                          refine l_lets ?_
                                          refine l_ox H ?_
                                          refine l_cP (kX11_rows H.1.1 H.1.2.1) (fun r511_ => ?_)
                                          refine l_nn X1 ?_
                                          refine l_lets ?_
                                          refine l_om H ?_
                                          refine l_r H (tM_rows_0 _ _ _ _ H.2.1.1) (nM_rows H.2.1.2.1) (fun _ _ _ f => jj_fr f (by decide) (by decide) (by decide) (by decide) H.2.1.2.2.1) (fun r519_ h520_ S527_ H521_ s522_ u523_ f528_ q529_ => ?_)
                                          have K530_ := kc_fr f528_ (by decide) K
                                          refine l_lets ?_
                                          exact fin G h520_ S527_ D H521_ K530_ (by omega) (by omega) (by omega)
                                        · skip
                                          refine l_if (fun c531_ => ?_) (fun c531_ => ?_)
                                          · skip
                                            refine l_nn X1 ?_
                                            refine l_lets ?_
                                            refine l_nn X2 ?_
                                            refine l_lets ?_
                                            refine l_ox H ?_
                                            refine l_cP (kX11_told H.1.1 H.1.2.1) (fun r532_ => ?_)
                                            refine l_nn X1 ?_
                                            refine l_lets ?_
                                            refine l_nn X2 ?_
                                            refine l_lets ?_
                                            refine l_om H ?_
                                            refine l_r H (tM_told_0 _ _ _ _ _ H.2.1.1) (nM_told H.2.1.2.1) (fun _ _ _ f => jj_fr f (by decide) (by decide) (by decide) (by decide) H.2.1.2.2.1) (fun r540_ h541_ S548_ H542_ s543_ u544_ f549_ q550_ => ?_)
                                            have K551_ := kc_fr f549_ (by decide) K
                                            refine l_lets ?_
                                            exact fin G h541_ S548_ D H542_ K551_ (by omega) (by omega) (by omega)
                                          · skip
                                            refine l_if (fun c552_ => ?_) (fun c552_ => ?_)
                                            · skip
                                              refine l_nn X1 ?_
                                              refine l_lets ?_
                                              refine l_nn X2 ?_
                                              refine l_lets ?_
                                              refine l_nn X3 ?_
                                              refine l_lets ?_
                                              refine l_ox H ?_
                                              refine l_cP (kX11_part H.1.1 H.1.2.1) (fun r553_ => ?_)
                                              refine l_nn X1 ?_
                                              refine l_lets ?_
                                              refine l_nn X2 ?_
                                              refine l_lets ?_
                                              refine l_nn X3 ?_
                                              refine l_lets ?_
                                              refine l_om H ?_
                                              refine l_r H (tM_part_0 _ _ _ _ _ _ H.2.1.1) (nM_part H.2.1.2.1) (fun _ _ _ f => jj_fr f (by decide) (by decide) (by decide) (by decide) H.2.1.2.2.1) (fun r561_ h562_ S569_ H563_ s564_ u565_ f570_ q571_ => ?_)
                                              have K572_ := kc_fr f570_ (by decide) K
                                              refine l_lets ?_
                                              exact fin G h562_ S569_ D H563_ K572_ (by omega) (by omega) (by omega)
                                            · skip
                                              refine l_lets ?_
                                              exact fin G h S D H K (by omega) (by omega) (by omega)
