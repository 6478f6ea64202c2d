set_option maxRecDepth 100000 in
set_option maxHeartbeats 40000000 in
theorem law_loop {L : Nat} {xs : Nat → Int32} {sz x m tp it : Nat} (hL : L ≤ 4608) : ∀ (n : Nat) (a3 : Int32) (G : GT) (h : sm_H) (S : MS), PI x m tp it G h S (S.1 4).toInt → 0 ≤ a3.toInt → a3.toInt ≤ 4617 → sz ≤ h.1 → (h.1 : Int) - sz + 60 * (4617 - a3.toInt) ≤ 600000 → (h.2.1 : Int) + 800 * (4617 - a3.toInt) ≤ 7302250 → 4617 - a3.toInt < (n : Int) → lJ sz (fL_law_18 L xs n (some x) (some m) a3 h) := by
  have hLi : (Int32.ofNat L).toInt = (L : Int) := Int32.toInt_ofNat_of_lt (by omega)
  have L9 : (9 : Int32).toInt = 9 := rfl
  have hL9 : (Int32.ofNat L - 9).toInt = (L : Int) - 9 := by rw [i_sub (by omega) (by omega)]; omega
  intro n
  induction n with
  | zero => intro a3 G h S H p0 p1 p2 p3 p4 q; exfalso; omega
  | succ n ih =>
    intro a3 G h S H p0 p1 p2 p3 p4 q
    have r2 := mi_f H.2.1.2.1 4 rfl
    unfold fL_law_18
    refine l_if (fun c => ?_) (fun c => ?_)
    · exact ⟨h, rfl, by omega, by omega⟩
    · have c1 : a3.toInt ≤ (L : Int) - 9 := by rw [Int32.lt_iff_toInt_lt, hL9] at c; omega
      have k1 : (a3 + (1 : Int32)).toInt = a3.toInt + 1 := by rw [i_add (by rw [show (1 : Int32).toInt = 1 from rfl]; omega) (by rw [show (1 : Int32).toInt = 1 from rfl]; omega)]; rfl
      have k2 : (a3 + (2 : Int32)).toInt = a3.toInt + 2 := by rw [i_add (by rw [show (2 : Int32).toInt = 2 from rfl]; omega) (by rw [show (2 : Int32).toInt = 2 from rfl]; omega)]; rfl
      have k3 : (a3 + (3 : Int32)).toInt = a3.toInt + 3 := by rw [i_add (by rw [show (3 : Int32).toInt = 3 from rfl]; omega) (by rw [show (3 : Int32).toInt = 3 from rfl]; omega)]; rfl
      have k4 : (a3 + (4 : Int32)).toInt = a3.toInt + 4 := by rw [i_add (by rw [show (4 : Int32).toInt = 4 from rfl]; omega) (by rw [show (4 : Int32).toInt = 4 from rfl]; omega)]; rfl
      have k5 : (a3 + (5 : Int32)).toInt = a3.toInt + 5 := by rw [i_add (by rw [show (5 : Int32).toInt = 5 from rfl]; omega) (by rw [show (5 : Int32).toInt = 5 from rfl]; omega)]; rfl
      have k6 : (a3 + (6 : Int32)).toInt = a3.toInt + 6 := by rw [i_add (by rw [show (6 : Int32).toInt = 6 from rfl]; omega) (by rw [show (6 : Int32).toInt = 6 from rfl]; omega)]; rfl
      have k7 : (a3 + (7 : Int32)).toInt = a3.toInt + 7 := by rw [i_add (by rw [show (7 : Int32).toInt = 7 from rfl]; omega) (by rw [show (7 : Int32).toInt = 7 from rfl]; omega)]; rfl
      have k8 : (a3 + (8 : Int32)).toInt = a3.toInt + 8 := by rw [i_add (by rw [show (8 : Int32).toInt = 8 from rfl]; omega) (by rw [show (8 : Int32).toInt = 8 from rfl]; omega)]; rfl
      have k9 : (a3 + (9 : Int32)).toInt = a3.toInt + 9 := by rw [i_add (by rw [show (9 : Int32).toInt = 9 from rfl]; omega) (by rw [show (9 : Int32).toInt = 9 from rfl]; omega)]; rfl
      have fin : ∀ (G2 : GT) (h2 : sm_H) (S2 : MS), PI x m tp it G2 h2 S2 (S2.1 4).toInt → h.1 ≤ h2.1 → h2.1 ≤ h.1 + 60 → h2.2.1 ≤ h.2.1 + 800 → lJ sz (fL_law_18 L xs n (some x) (some m) (a3 + (9 : Int32)) h2) := by
        intro G2 h2 S2 H2 t1 t2 t3
        clear k1 k2 k3 k4 k5 k6 k7 k8 c H
        exact ih (a3 + (9 : Int32)) G2 h2 S2 H2 (by rw [k9]; omega) (by rw [k9]; omega) (by omega) (by rw [k9]; omega) (by rw [k9]; omega) (by rw [k9]; omega)
      have X0 : ¬ (a3 < 0 ∨ L ≤ a3.toNatClampNeg) := n_ix (by omega) (by omega)
      have X1 : ¬ ((a3 + (1 : Int32)) < 0 ∨ L ≤ (a3 + (1 : Int32)).toNatClampNeg) := n_ix (by omega) (by omega)
      have X2 : ¬ ((a3 + (2 : Int32)) < 0 ∨ L ≤ (a3 + (2 : Int32)).toNatClampNeg) := n_ix (by omega) (by omega)
      have X3 : ¬ ((a3 + (3 : Int32)) < 0 ∨ L ≤ (a3 + (3 : Int32)).toNatClampNeg) := n_ix (by omega) (by omega)
      have X4 : ¬ ((a3 + (4 : Int32)) < 0 ∨ L ≤ (a3 + (4 : Int32)).toNatClampNeg) := n_ix (by omega) (by omega)
      have X5 : ¬ ((a3 + (5 : Int32)) < 0 ∨ L ≤ (a3 + (5 : Int32)).toNatClampNeg) := n_ix (by omega) (by omega)
      have X6 : ¬ ((a3 + (6 : Int32)) < 0 ∨ L ≤ (a3 + (6 : Int32)).toNatClampNeg) := n_ix (by omega) (by omega)
      have X7 : ¬ ((a3 + (7 : Int32)) < 0 ∨ L ≤ (a3 + (7 : Int32)).toNatClampNeg) := n_ix (by omega) (by omega)
      have X8 : ¬ ((a3 + (8 : Int32)) < 0 ∨ L ≤ (a3 + (8 : Int32)).toNatClampNeg) := n_ix (by omega) (by omega)
      clear hL9 hLi L9 c k1 k2 k3 k4 k5 k6 k7 k8 k9 ih p0 p1 p2 p3 p4 q c1
      refine l_nn X0 ?_
      refine l_lets ?_
      refine l_let (fun x2_ => ?_)
      refine l_if (fun c3_ => ?_) (fun c3_ => ?_)
      · skip
        refine l_nn X1 ?_
        refine l_lets ?_
        refine l_nn X2 ?_
        refine l_lets ?_
        refine l_nn X3 ?_
        refine l_lets ?_
        refine l_ox H ?_
        refine l_cW H (kX11_feed H.1.1 H.1.2.1) (by simp) (by simp) (by simp) (fun r7_ h8_ H9_ s10_ u11_ => ?_)
        refine l_nn X1 ?_
        refine l_lets ?_
        refine l_nn X2 ?_
        refine l_lets ?_
        refine l_nn X3 ?_
        refine l_lets ?_
        refine l_om H9_ ?_
        refine l_r H9_ (tM_feed_0 _ _ _ _ _ H9_.2.1.1) (nM_feed H9_.2.1.2.1) (fun _ _ _ f => jj_fr f (by decide) (by decide) (by decide) (by decide) H9_.2.1.2.2.1) (fun r15_ h16_ S20_ H17_ s18_ u19_ f21_ q22_ => ?_)
        have H23_ : PI x m tp it G h16_ S20_ (S20_.1 4).toInt := by rw [f21_.1 4 (by decide)]; exact H17_
        refine l_lets ?_
        exact fin G h16_ S20_ H23_ (by omega) (by omega) (by omega)
      · skip
        refine l_if (fun c24_ => ?_) (fun c24_ => ?_)
        · skip
          refine l_nn X1 ?_
          refine l_lets ?_
          refine l_nn X2 ?_
          refine l_lets ?_
          refine l_ox H ?_
          refine l_cZ (R' := fun (r : Int32) h' _ => ∃ ts', CH 1 h' x tp it ts' ∧ numQ (S.1 4).toInt (((((xs (a3 + (1 : Int32)).toNatClampNeg).toInt64) <<< ((32 : Int32).toInt64 &&& 63)) ||| (((xs (a3 + (2 : Int32)).toNatClampNeg).toInt64) &&& (4294967295 : Int64)))).toInt r.toInt ts'.toInt) (P := fun (r : Int32) w => numQ (S.1 4).toInt (((((xs (a3 + (1 : Int32)).toNatClampNeg).toInt64) <<< ((32 : Int32).toInt64 &&& 63)) ||| (((xs (a3 + (2 : Int32)).toNatClampNeg).toInt64) &&& (4294967295 : Int64)))).toInt r.toInt w) H (kX11_number H.1.1 H.1.2.1) (by simp) (fun ts q e => by rw [← e]; exact hz_number H.1.1 H.1.2.1 H.1.2.2.1 H.1.2.2.2.1 H.1.2.2.2.2 q (by omega) (by omega)) (fun _ _ _ q => q) (fun r27_ h28_ w32_ H29_ w32_q s30_ u31_ => ?_)
          refine l_nn X1 ?_
          refine l_lets ?_
          refine l_nn X2 ?_
          refine l_lets ?_
          refine l_om H29_ ?_
          refine l_r H29_ (tM_number_0 _ _ _ _ H29_.2.1.1) (nM_numberQ H29_.2.1.2.1) (fun _ _ _ f => jj_fr f (by decide) (by decide) (by decide) (by decide) H29_.2.1.2.2.1) (fun r35_ h36_ S40_ H37_ s38_ u39_ f41_ q42_ => ?_)
          have e43_ := num_eq w32_q q42_
          have H44_ : PI x m tp it G h36_ S40_ (S40_.1 4).toInt := by rw [← e43_.2]; exact H37_
          rw [if_pos (Int32.toInt_inj.mp e43_.1)]
          refine l_lets ?_
          exact fin G h36_ S40_ H44_ (by omega) (by omega) (by omega)
        · skip
          refine l_if (fun c46_ => ?_) (fun c46_ => ?_)
          · skip
            refine l_nn X1 ?_
            refine l_lets ?_
            refine l_nn X2 ?_
            refine l_lets ?_
            refine l_nn X3 ?_
            refine l_lets ?_
            refine l_nn X4 ?_
            refine l_lets ?_
            refine l_nn X5 ?_
            refine l_lets ?_
            refine l_nn X6 ?_
            refine l_lets ?_
            refine l_ox H ?_
            refine l_cAZ H (kX11_scalar H.1.1 H.1.2.1) (by simp) (fun ts q => hz_scalar H.1.1 H.1.2.1 H.1.2.2.1 q) (fun _ _ _ q => q) (fun r53_ h54_ G58_ H55_ s56_ u57_ s56_l => ?_)
            refine l_nn X1 ?_
            refine l_lets ?_
            refine l_nn X2 ?_
            refine l_lets ?_
            refine l_nn X3 ?_
            refine l_lets ?_
            refine l_nn X4 ?_
            refine l_lets ?_
            refine l_nn X5 ?_
            refine l_lets ?_
            refine l_nn X6 ?_
            refine l_lets ?_
            refine l_om H55_ ?_
            refine l_r H55_ (tM_scalar_0 _ _ _ _ _ _ _ H55_.2.1.1) (nM_scalar H55_.2.1.2.1) (fun r S1 e _ => jj_scalar H55_.2.1.2.1 H55_.2.1.2.2.1 e) (fun r65_ h66_ S70_ H67_ s68_ u69_ f71_ q72_ => ?_)
            have H73_ : PI x m tp it G58_ h66_ S70_ (S70_.1 4).toInt := by rw [q72_]; exact H67_
            refine l_lets ?_
            exact fin G58_ h66_ S70_ H73_ (by omega) (by omega) (by omega)
          · skip
            refine l_if (fun c74_ => ?_) (fun c74_ => ?_)
            · skip
              refine l_ox H ?_
              refine l_cAZ H (kX11_table H.1.1 H.1.2.1) (by simp) (fun ts q => hz_table H.1.1 H.1.2.1 H.1.2.2.1 q) (fun _ _ _ q => q) (fun r75_ h76_ G80_ H77_ s78_ u79_ s78_l => ?_)
              refine l_om H77_ ?_
              refine l_r H77_ (tM_table_0 _ _ _ H77_.2.1.1) (nM_table H77_.2.1.2.1) (fun _ _ _ f => jj_fr f (by decide) (by decide) (by decide) (by decide) H77_.2.1.2.2.1) (fun r81_ h82_ S86_ H83_ s84_ u85_ f87_ q88_ => ?_)
              have H89_ : PI x m tp it G80_ h82_ S86_ (S86_.1 4).toInt := by rw [q88_]; exact H83_
              refine l_lets ?_
              exact fin G80_ h82_ S86_ H89_ (by omega) (by omega) (by omega)
            · skip
              refine l_if (fun c90_ => ?_) (fun c90_ => ?_)
              · skip
                refine l_nn X1 ?_
                refine l_lets ?_
                refine l_nn X2 ?_
                refine l_lets ?_
                refine l_nn X3 ?_
                refine l_lets ?_
                refine l_nn X4 ?_
                refine l_lets ?_
                refine l_nn X5 ?_
                refine l_lets ?_
                refine l_nn X6 ?_
                refine l_lets ?_
                refine l_nn X7 ?_
                refine l_lets ?_
                refine l_nn X8 ?_
                refine l_lets ?_
                refine l_ox H ?_
                refine l_cA H (kX11_column H.1.1 H.1.2.1) (by simp) (by simp) (by simp) (fun r99_ h100_ G104_ H101_ s102_ u103_ s102_l => ?_)
                refine l_nn X1 ?_
                refine l_lets ?_
                refine l_nn X2 ?_
                refine l_lets ?_
                refine l_nn X3 ?_
                refine l_lets ?_
                refine l_nn X4 ?_
                refine l_lets ?_
                refine l_nn X5 ?_
                refine l_lets ?_
                refine l_nn X6 ?_
                refine l_lets ?_
                refine l_nn X7 ?_
                refine l_lets ?_
                refine l_nn X8 ?_
                refine l_lets ?_
                refine l_om H101_ ?_
                refine l_r H101_ (tM_column_0 _ _ _ _ _ _ _ _ _ H101_.2.1.1) (nM_column H101_.2.1.2.1) (fun r S1 e _ => jj_column H101_.2.1.2.1 H101_.2.1.2.2.1 e) (fun r113_ h114_ S118_ H115_ s116_ u117_ f119_ q120_ => ?_)
                have H121_ : PI x m tp it G104_ h114_ S118_ (S118_.1 4).toInt := by rw [f119_.1 4 (by decide)]; exact H115_
                refine l_lets ?_
                exact fin G104_ h114_ S118_ H121_ (by omega) (by omega) (by omega)
              · skip
                refine l_if (fun c122_ => ?_) (fun c122_ => ?_)
                · skip
                  refine l_nn X1 ?_
                  refine l_lets ?_
                  refine l_nn X2 ?_
                  refine l_lets ?_
                  refine l_ox H ?_
                  refine l_cA H (kX11_status H.1.1 H.1.2.1) (by simp) (by simp) (by simp) (fun r125_ h126_ G130_ H127_ s128_ u129_ s128_l => ?_)
                  refine l_nn X1 ?_
                  refine l_lets ?_
                  refine l_nn X2 ?_
                  refine l_lets ?_
                  refine l_om H127_ ?_
                  refine l_r H127_ (tM_status_0 _ _ _ _ _ H127_.2.1.1) (nM_status H127_.2.1.2.1) (fun r S1 e _ => jj_status H127_.2.1.2.1 H127_.2.1.2.2.1 e) (fun r133_ h134_ S138_ H135_ s136_ u137_ f139_ q140_ => ?_)
                  have H141_ : PI x m tp it G130_ h134_ S138_ (S138_.1 4).toInt := by rw [f139_.1 4 (by decide)]; exact H135_
                  refine l_lets ?_
                  exact fin G130_ h134_ S138_ H141_ (by omega) (by omega) (by omega)
                · skip
                  refine l_if (fun c142_ => ?_) (fun c142_ => ?_)
                  · skip
                    refine l_nn X1 ?_
                    refine l_lets ?_
                    refine l_nn X2 ?_
                    refine l_lets ?_
                    refine l_nn X3 ?_
                    refine l_lets ?_
                    refine l_if (fun c146_ => ?_) (fun c146_ => ?_)
                    · skip
                      unfold fL_law_568
                      refine l_ox H ?_
                      refine l_cW H (kX11_row H.1.1 H.1.2.1 (by decide)) (by simp) (by simp) (by simp) (fun r147_ h148_ H149_ s150_ u151_ => ?_)
                      refine l_nn X1 ?_
                      refine l_lets ?_
                      refine l_nn X2 ?_
                      refine l_lets ?_
                      refine l_nn X3 ?_
                      refine l_lets ?_
                      refine l_if (fun c155_ => ?_) (fun c155_ => ?_)
                      · skip
                        refine l_om H149_ ?_
                        refine l_r H149_ (tM_row_0 _ _ _ _ _ _ H149_.2.1.1) (nM_row H149_.2.1.2.1 (by decide)) (fun _ _ _ f => jj_fr f (by decide) (by decide) (by decide) (by decide) H149_.2.1.2.2.1) (fun r156_ h157_ S161_ H158_ s159_ u160_ f162_ q163_ => ?_)
                        have H164_ : PI x m tp it G h157_ S161_ (S161_.1 4).toInt := by rw [f162_.1 4 (by decide)]; exact H158_
                        refine l_lets ?_
                        exact fin G h157_ S161_ H164_ (by omega) (by omega) (by omega)
                      · skip
                        refine l_om H149_ ?_
                        refine l_r H149_ (tM_row_0 _ _ _ _ _ _ H149_.2.1.1) (nM_row H149_.2.1.2.1 (by decide)) (fun _ _ _ f => jj_fr f (by decide) (by decide) (by decide) (by decide) H149_.2.1.2.2.1) (fun r165_ h166_ S170_ H167_ s168_ u169_ f171_ q172_ => ?_)
                        have H173_ : PI x m tp it G h166_ S170_ (S170_.1 4).toInt := by rw [f171_.1 4 (by decide)]; exact H167_
                        refine l_lets ?_
                        exact fin G h166_ S170_ H173_ (by omega) (by omega) (by omega)
                    · skip
                      unfold fL_law_568
                      refine l_ox H ?_
                      refine l_cW H (kX11_row H.1.1 H.1.2.1 (by decide)) (by simp) (by simp) (by simp) (fun r174_ h175_ H176_ s177_ u178_ => ?_)
                      refine l_nn X1 ?_
                      refine l_lets ?_
                      refine l_nn X2 ?_
                      refine l_lets ?_
                      refine l_nn X3 ?_
                      refine l_lets ?_
                      refine l_if (fun c182_ => ?_) (fun c182_ => ?_)
                      · skip
                        refine l_om H176_ ?_
                        refine l_r H176_ (tM_row_0 _ _ _ _ _ _ H176_.2.1.1) (nM_row H176_.2.1.2.1 (by decide)) (fun _ _ _ f => jj_fr f (by decide) (by decide) (by decide) (by decide) H176_.2.1.2.2.1) (fun r183_ h184_ S188_ H185_ s186_ u187_ f189_ q190_ => ?_)
                        have H191_ : PI x m tp it G h184_ S188_ (S188_.1 4).toInt := by rw [f189_.1 4 (by decide)]; exact H185_
                        refine l_lets ?_
                        exact fin G h184_ S188_ H191_ (by omega) (by omega) (by omega)
                      · skip
                        refine l_om H176_ ?_
                        refine l_r H176_ (tM_row_0 _ _ _ _ _ _ H176_.2.1.1) (nM_row H176_.2.1.2.1 (by decide)) (fun _ _ _ f => jj_fr f (by decide) (by decide) (by decide) (by decide) H176_.2.1.2.2.1) (fun r192_ h193_ S197_ H194_ s195_ u196_ f198_ q199_ => ?_)
                        have H200_ : PI x m tp it G h193_ S197_ (S197_.1 4).toInt := by rw [f198_.1 4 (by decide)]; exact H194_
                        refine l_lets ?_
                        exact fin G h193_ S197_ H200_ (by omega) (by omega) (by omega)
                  · skip
                    refine l_if (fun c201_ => ?_) (fun c201_ => ?_)
                    · skip
                      refine l_nn X1 ?_
                      refine l_lets ?_
                      refine l_nn X2 ?_
                      refine l_lets ?_
                      refine l_nn X3 ?_
                      refine l_lets ?_
                      refine l_nn X4 ?_
                      refine l_lets ?_
                      refine l_ox H ?_
                      refine l_cW H (kX11_value H.1.1 H.1.2.1) (by simp) (by simp) (by simp) (fun r206_ h207_ H208_ s209_ u210_ => ?_)
                      refine l_nn X1 ?_
                      refine l_lets ?_
                      refine l_nn X2 ?_
                      refine l_lets ?_
                      refine l_nn X3 ?_
                      refine l_lets ?_
                      refine l_nn X4 ?_
                      refine l_lets ?_
                      refine l_om H208_ ?_
                      refine l_r H208_ (tM_value_0 _ _ _ _ _ _ H208_.2.1.1) (nM_value H208_.2.1.2.1) (fun _ _ _ f => jj_fr f (by decide) (by decide) (by decide) (by decide) H208_.2.1.2.2.1) (fun r215_ h216_ S220_ H217_ s218_ u219_ f221_ q222_ => ?_)
                      have H223_ : PI x m tp it G h216_ S220_ (S220_.1 4).toInt := by rw [f221_.1 4 (by decide)]; exact H217_
                      refine l_lets ?_
                      exact fin G h216_ S220_ H223_ (by omega) (by omega) (by omega)
                    · skip
                      refine l_if (fun c224_ => ?_) (fun c224_ => ?_)
                      · skip
                        refine l_nn X1 ?_
                        refine l_lets ?_
                        refine l_nn X2 ?_
                        refine l_lets ?_
                        refine l_ox H ?_
                        refine l_cW H (kX11_text H.1.1 H.1.2.1) (by simp) (by simp) (by simp) (fun r227_ h228_ H229_ s230_ u231_ => ?_)
                        refine l_nn X1 ?_
                        refine l_lets ?_
                        refine l_nn X2 ?_
                        refine l_lets ?_
                        refine l_om H229_ ?_
                        refine l_r H229_ (tM_text_0 _ _ _ _ _ H229_.2.1.1) (nM_text H229_.2.1.2.1) (fun _ _ _ f => jj_fr f (by decide) (by decide) (by decide) (by decide) H229_.2.1.2.2.1) (fun r234_ h235_ S239_ H236_ s237_ u238_ f240_ q241_ => ?_)
                        have H242_ : PI x m tp it G h235_ S239_ (S239_.1 4).toInt := by rw [f240_.1 4 (by decide)]; exact H236_
                        refine l_lets ?_
                        exact fin G h235_ S239_ H242_ (by omega) (by omega) (by omega)
                      · skip
                        refine l_if (fun c243_ => ?_) (fun c243_ => ?_)
                        · skip
                          refine l_nn X1 ?_
                          refine l_lets ?_
                          refine l_nn X2 ?_
                          refine l_lets ?_
                          refine l_ox H ?_
                          refine l_cZ (P := fun _ w => w = 0) H (kX11_identity H.1.1 H.1.2.1) (by simp) (fun ts q _ => hz_identity H.1.1 H.1.2.1 H.1.2.2.1 q) (fun _ _ _ q => ⟨0, q, rfl⟩) (fun r246_ h247_ w251_ H248_ w251_q s249_ u250_ => ?_)
                          subst w251_q
                          refine l_nn X1 ?_
                          refine l_lets ?_
                          refine l_nn X2 ?_
                          refine l_lets ?_
                          refine l_om H248_ ?_
                          refine l_r H248_ (tM_identity_0 _ _ _ _ _ H248_.2.1.1) (nM_identity H248_.2.1.2.1) (fun _ _ _ f => jj_fr f (by decide) (by decide) (by decide) (by decide) H248_.2.1.2.2.1) (fun r254_ h255_ S259_ H256_ s257_ u258_ f260_ q261_ => ?_)
                          have H262_ : PI x m tp it G h255_ S259_ (S259_.1 4).toInt := by rw [q261_]; exact H256_
                          refine l_lets ?_
                          exact fin G h255_ S259_ H262_ (by omega) (by omega) (by omega)
                        · skip
                          refine l_if (fun c263_ => ?_) (fun c263_ => ?_)
                          · skip
                            refine l_nn X1 ?_
                            refine l_lets ?_
                            refine l_if (fun c265_ => ?_) (fun c265_ => ?_)
                            · skip
                              unfold fL_law_756
                              refine l_ox H ?_
                              refine l_cAK H (kX11_community H.1.1 H.1.2.1 (by decide)) (by simp) (fun ts q => hk_community H.1.1 H.1.2.1 H.1.2.2.1 (by decide) q) (fun r266_ h267_ G271_ H268_ s269_ u270_ s269_l => ?_)
                              refine l_nn X1 ?_
                              refine l_lets ?_
                              refine l_if (fun c273_ => ?_) (fun c273_ => ?_)
                              · skip
                                refine l_om H268_ ?_
                                refine l_r H268_ (tM_community_0 _ _ _ _ H268_.2.1.1) (nM_community H268_.2.1.2.1 (by decide)) (fun _ _ _ f => jj_fr f (by decide) (by decide) (by decide) (by decide) H268_.2.1.2.2.1) (fun r274_ h275_ S279_ H276_ s277_ u278_ f280_ q281_ => ?_)
                                have H282_ : PI x m tp it G271_ h275_ S279_ (S279_.1 4).toInt := by rw [f280_.1 4 (by decide)]; exact H276_
                                refine l_lets ?_
                                exact fin G271_ h275_ S279_ H282_ (by omega) (by omega) (by omega)
                              · skip
                                refine l_om H268_ ?_
                                refine l_r H268_ (tM_community_0 _ _ _ _ H268_.2.1.1) (nM_community H268_.2.1.2.1 (by decide)) (fun _ _ _ f => jj_fr f (by decide) (by decide) (by decide) (by decide) H268_.2.1.2.2.1) (fun r283_ h284_ S288_ H285_ s286_ u287_ f289_ q290_ => ?_)
                                have H291_ : PI x m tp it G271_ h284_ S288_ (S288_.1 4).toInt := by rw [f289_.1 4 (by decide)]; exact H285_
                                refine l_lets ?_
                                exact fin G271_ h284_ S288_ H291_ (by omega) (by omega) (by omega)
                            · skip
                              unfold fL_law_756
                              refine l_ox H ?_
                              refine l_cAK H (kX11_community H.1.1 H.1.2.1 (by decide)) (by simp) (fun ts q => hk_community H.1.1 H.1.2.1 H.1.2.2.1 (by decide) q) (fun r292_ h293_ G297_ H294_ s295_ u296_ s295_l => ?_)
                              refine l_nn X1 ?_
                              refine l_lets ?_
                              refine l_if (fun c299_ => ?_) (fun c299_ => ?_)
                              · skip
                                refine l_om H294_ ?_
                                refine l_r H294_ (tM_community_0 _ _ _ _ H294_.2.1.1) (nM_community H294_.2.1.2.1 (by decide)) (fun _ _ _ f => jj_fr f (by decide) (by decide) (by decide) (by decide) H294_.2.1.2.2.1) (fun r300_ h301_ S305_ H302_ s303_ u304_ f306_ q307_ => ?_)
                                have H308_ : PI x m tp it G297_ h301_ S305_ (S305_.1 4).toInt := by rw [f306_.1 4 (by decide)]; exact H302_
                                refine l_lets ?_
                                exact fin G297_ h301_ S305_ H308_ (by omega) (by omega) (by omega)
                              · skip
                                refine l_om H294_ ?_
                                refine l_r H294_ (tM_community_0 _ _ _ _ H294_.2.1.1) (nM_community H294_.2.1.2.1 (by decide)) (fun _ _ _ f => jj_fr f (by decide) (by decide) (by decide) (by decide) H294_.2.1.2.2.1) (fun r309_ h310_ S314_ H311_ s312_ u313_ f315_ q316_ => ?_)
                                have H317_ : PI x m tp it G297_ h310_ S314_ (S314_.1 4).toInt := by rw [f315_.1 4 (by decide)]; exact H311_
                                refine l_lets ?_
                                exact fin G297_ h310_ S314_ H317_ (by omega) (by omega) (by omega)
                          · skip
                            refine l_if (fun c318_ => ?_) (fun c318_ => ?_)
                            · skip
                              refine l_nn X1 ?_
                              refine l_lets ?_
                              refine l_nn X2 ?_
                              refine l_lets ?_
                              refine l_if (fun c321_ => ?_) (fun c321_ => ?_)
                              · skip
                                unfold fL_law_800
                                refine l_ox H ?_
                                refine l_cAZ H (kX11_view H.1.1 H.1.2.1 (by decide)) (by simp) (fun ts q => hz_view H.1.1 H.1.2.1 H.1.2.2.1 (by decide) q) (fun _ _ _ q => q) (fun r322_ h323_ G327_ H324_ s325_ u326_ s325_l => ?_)
                                refine l_nn X1 ?_
                                refine l_lets ?_
                                refine l_nn X2 ?_
                                refine l_lets ?_
                                refine l_if (fun c330_ => ?_) (fun c330_ => ?_)
                                · skip
                                  refine l_om H324_ ?_
                                  refine l_r H324_ (tM_view_0 _ _ _ _ _ H324_.2.1.1) (nM_view H324_.2.1.2.1 (by decide)) (fun _ _ _ f => jj_fr f (by decide) (by decide) (by decide) (by decide) H324_.2.1.2.2.1) (fun r331_ h332_ S336_ H333_ s334_ u335_ f337_ q338_ => ?_)
                                  have H339_ : PI x m tp it G327_ h332_ S336_ (S336_.1 4).toInt := by rw [q338_]; exact H333_
                                  refine l_lets ?_
                                  exact fin G327_ h332_ S336_ H339_ (by omega) (by omega) (by omega)
                                · skip
                                  refine l_om H324_ ?_
                                  refine l_r H324_ (tM_view_0 _ _ _ _ _ H324_.2.1.1) (nM_view H324_.2.1.2.1 (by decide)) (fun _ _ _ f => jj_fr f (by decide) (by decide) (by decide) (by decide) H324_.2.1.2.2.1) (fun r340_ h341_ S345_ H342_ s343_ u344_ f346_ q347_ => ?_)
                                  have H348_ : PI x m tp it G327_ h341_ S345_ (S345_.1 4).toInt := by rw [q347_]; exact H342_
                                  refine l_lets ?_
                                  exact fin G327_ h341_ S345_ H348_ (by omega) (by omega) (by omega)
                              · skip
                                unfold fL_law_800
                                refine l_ox H ?_
                                refine l_cAZ H (kX11_view H.1.1 H.1.2.1 (by decide)) (by simp) (fun ts q => hz_view H.1.1 H.1.2.1 H.1.2.2.1 (by decide) q) (fun _ _ _ q => q) (fun r349_ h350_ G354_ H351_ s352_ u353_ s352_l => ?_)
                                refine l_nn X1 ?_
                                refine l_lets ?_
                                refine l_nn X2 ?_
                                refine l_lets ?_
                                refine l_if (fun c357_ => ?_) (fun c357_ => ?_)
                                · skip
                                  refine l_om H351_ ?_
                                  refine l_r H351_ (tM_view_0 _ _ _ _ _ H351_.2.1.1) (nM_view H351_.2.1.2.1 (by decide)) (fun _ _ _ f => jj_fr f (by decide) (by decide) (by decide) (by decide) H351_.2.1.2.2.1) (fun r358_ h359_ S363_ H360_ s361_ u362_ f364_ q365_ => ?_)
                                  have H366_ : PI x m tp it G354_ h359_ S363_ (S363_.1 4).toInt := by rw [q365_]; exact H360_
                                  refine l_lets ?_
                                  exact fin G354_ h359_ S363_ H366_ (by omega) (by omega) (by omega)
                                · skip
                                  refine l_om H351_ ?_
                                  refine l_r H351_ (tM_view_0 _ _ _ _ _ H351_.2.1.1) (nM_view H351_.2.1.2.1 (by decide)) (fun _ _ _ f => jj_fr f (by decide) (by decide) (by decide) (by decide) H351_.2.1.2.2.1) (fun r367_ h368_ S372_ H369_ s370_ u371_ f373_ q374_ => ?_)
                                  have H375_ : PI x m tp it G354_ h368_ S372_ (S372_.1 4).toInt := by rw [q374_]; exact H369_
                                  refine l_lets ?_
                                  exact fin G354_ h368_ S372_ H375_ (by omega) (by omega) (by omega)
                            · skip
                              refine l_if (fun c376_ => ?_) (fun c376_ => ?_)
                              · skip
                                refine l_nn X1 ?_
                                refine l_lets ?_
                                refine l_ox H ?_
                                refine l_cK H (fun ts q => kt1X11_limit H.1.1 H.1.2.1 H.1.2.2.1 q.1) (by simp) (by simp) (fun r378_ h379_ H380_ s381_ u382_ => ?_)
                                refine l_nn X1 ?_
                                refine l_lets ?_
                                refine l_om H380_ ?_
                                refine l_r H380_ (tM_limit_0 _ _ _ _ H380_.2.1.1) (nM_limit H380_.2.1.2.1) (fun _ _ _ f => jj_fr f (by decide) (by decide) (by decide) (by decide) H380_.2.1.2.2.1) (fun r384_ h385_ S389_ H386_ s387_ u388_ f390_ q391_ => ?_)
                                have H392_ : PI x m tp it G h385_ S389_ (S389_.1 4).toInt := by rw [f390_.1 4 (by decide)]; exact H386_
                                refine l_lets ?_
                                exact fin G h385_ S389_ H392_ (by omega) (by omega) (by omega)
                              · skip
                                refine l_if (fun c393_ => ?_) (fun c393_ => ?_)
                                · skip
                                  refine l_nn X1 ?_
                                  refine l_lets ?_
                                  refine l_nn X2 ?_
                                  refine l_lets ?_
                                  refine l_ox H ?_
                                  refine l_cK H (fun ts q => kt1X11_tick H.1.1 H.1.2.1 H.1.2.2.1 q.1) (by simp) (by simp) (fun r396_ h397_ H398_ s399_ u400_ => ?_)
                                  refine l_nn X1 ?_
                                  refine l_lets ?_
                                  refine l_nn X2 ?_
                                  refine l_lets ?_
                                  refine l_om H398_ ?_
                                  refine l_r H398_ (tM_tick_0 _ _ _ _ H398_.2.1.1) (nM_tick H398_.2.1.2.1) (fun _ _ _ f => jj_fr f (by decide) (by decide) (by decide) (by decide) H398_.2.1.2.2.1) (fun r403_ h404_ S408_ H405_ s406_ u407_ f409_ q410_ => ?_)
                                  have H411_ : PI x m tp it G h404_ S408_ (S408_.1 4).toInt := by rw [f409_.1 4 (by decide)]; exact H405_
                                  refine l_lets ?_
                                  exact fin G h404_ S408_ H411_ (by omega) (by omega) (by omega)
                                · skip
                                  refine l_if (fun c412_ => ?_) (fun c412_ => ?_)
                                  · skip
                                    refine l_ox H ?_
                                    refine l_cW H (kX11_question H.1.1 H.1.2.1) (by simp) (by simp) (by simp) (fun r413_ h414_ H415_ s416_ u417_ => ?_)
                                    refine l_om H415_ ?_
                                    refine l_r H415_ (tM_question_0 _ _ _ H415_.2.1.1) (nM_question H415_.2.1.2.1 H415_.2.1.2.2.1) (fun _ _ _ f => jj_fr f (by decide) (by decide) (by decide) (by decide) H415_.2.1.2.2.1) (fun r418_ h419_ S423_ H420_ s421_ u422_ f424_ q425_ => ?_)
                                    have H426_ : PI x m tp it G h419_ S423_ (S423_.1 4).toInt := by rw [f424_.1 4 (by decide)]; exact H420_
                                    refine l_lets ?_
                                    exact fin G h419_ S423_ H426_ (by omega) (by omega) (by omega)
                                  · skip
                                    refine l_if (fun c427_ => ?_) (fun c427_ => ?_)
                                    · skip
                                      refine l_nn X1 ?_
                                      refine l_lets ?_
                                      refine l_ox H ?_
                                      refine l_cP (kX11_answer H.1.1 H.1.2.1) (fun r429_ => ?_)
                                      refine l_nn X1 ?_
                                      refine l_lets ?_
                                      refine l_om H ?_
                                      refine l_r H (tM_answer_0 _ _ _ _ H.2.1.1) (nM_answer H.2.1.2.1) (fun _ _ _ f => jj_fr f (by decide) (by decide) (by decide) (by decide) H.2.1.2.2.1) (fun r435_ h436_ S440_ H437_ s438_ u439_ f441_ q442_ => ?_)
                                      have H443_ : PI x m tp it G h436_ S440_ (S440_.1 4).toInt := by rw [f441_.1 4 (by decide)]; exact H437_
                                      refine l_lets ?_
                                      exact fin G h436_ S440_ H443_ (by omega) (by omega) (by omega)
                                    · skip
                                      refine l_if (fun c444_ => ?_) (fun c444_ => ?_)
                                      · skip
                                        refine l_nn X1 ?_
                                        refine l_lets ?_
                                        refine l_ox H ?_
                                        refine l_cP (kX11_count H.1.1 H.1.2.1) (fun r446_ => ?_)
                                        refine l_nn X1 ?_
                                        refine l_lets ?_
                                        refine l_om H ?_
                                        refine l_r H (tM_count_0 _ _ _ _ H.2.1.1) (nM_count H.2.1.2.1) (fun _ _ _ f => jj_fr f (by decide) (by decide) (by decide) (by decide) H.2.1.2.2.1) (fun r452_ h453_ S457_ H454_ s455_ u456_ f458_ q459_ => ?_)
                                        have H460_ : PI x m tp it G h453_ S457_ (S457_.1 4).toInt := by rw [f458_.1 4 (by decide)]; exact H454_
                                        refine l_lets ?_
                                        exact fin G h453_ S457_ H460_ (by omega) (by omega) (by omega)
                                      · skip
                                        refine l_if (fun c461_ => ?_) (fun c461_ => ?_)
                                        · skip
                                          refine l_nn X1 ?_
                                          refine l_lets ?_
                                          refine l_ox H ?_
                                          refine l_cP (kX11_rows H.1.1 H.1.2.1) (fun r463_ => ?_)
                                          refine l_nn X1 ?_
                                          refine l_lets ?_
                                          refine l_om H ?_
                                          refine l_r H (tM_rows_0 _ _ _ _ H.2.1.1) (nM_rows H.2.1.2.1) (fun _ _ _ f => jj_fr f (by decide) (by decide) (by decide) (by decide) H.2.1.2.2.1) (fun r469_ h470_ S474_ H471_ s472_ u473_ f475_ q476_ => ?_)
                                          have H477_ : PI x m tp it G h470_ S474_ (S474_.1 4).toInt := by rw [f475_.1 4 (by decide)]; exact H471_
                                          refine l_lets ?_
                                          exact fin G h470_ S474_ H477_ (by omega) (by omega) (by omega)
                                        · skip
                                          refine l_if (fun c478_ => ?_) (fun c478_ => ?_)
                                          · skip
                                            refine l_nn X1 ?_
                                            refine l_lets ?_
                                            refine l_nn X2 ?_
                                            refine l_lets ?_
                                            refine l_ox H ?_
                                            refine l_cP (kX11_told H.1.1 H.1.2.1) (fun r481_ => ?_)
                                            refine l_nn X1 ?_
                                            refine l_lets ?_
                                            refine l_nn X2 ?_
                                            refine l_lets ?_
                                            refine l_om H ?_
                                            refine l_r H (tM_told_0 _ _ _ _ _ H.2.1.1) (nM_told H.2.1.2.1) (fun _ _ _ f => jj_fr f (by decide) (by decide) (by decide) (by decide) H.2.1.2.2.1) (fun r488_ h489_ S493_ H490_ s491_ u492_ f494_ q495_ => ?_)
                                            have H496_ : PI x m tp it G h489_ S493_ (S493_.1 4).toInt := by rw [f494_.1 4 (by decide)]; exact H490_
                                            refine l_lets ?_
                                            exact fin G h489_ S493_ H496_ (by omega) (by omega) (by omega)
                                          · skip
                                            refine l_if (fun c497_ => ?_) (fun c497_ => ?_)
                                            · skip
                                              refine l_nn X1 ?_
                                              refine l_lets ?_
                                              refine l_nn X2 ?_
                                              refine l_lets ?_
                                              refine l_nn X3 ?_
                                              refine l_lets ?_
                                              refine l_ox H ?_
                                              refine l_cP (kX11_part H.1.1 H.1.2.1) (fun r501_ => ?_)
                                              refine l_nn X1 ?_
                                              refine l_lets ?_
                                              refine l_nn X2 ?_
                                              refine l_lets ?_
                                              refine l_nn X3 ?_
                                              refine l_lets ?_
                                              refine l_om H ?_
                                              refine l_r H (tM_part_0 _ _ _ _ _ _ H.2.1.1) (nM_part H.2.1.2.1) (fun _ _ _ f => jj_fr f (by decide) (by decide) (by decide) (by decide) H.2.1.2.2.1) (fun r509_ h510_ S514_ H511_ s512_ u513_ f515_ q516_ => ?_)
                                              have H517_ : PI x m tp it G h510_ S514_ (S514_.1 4).toInt := by rw [f515_.1 4 (by decide)]; exact H511_
                                              refine l_lets ?_
                                              exact fin G h510_ S514_ H517_ (by omega) (by omega) (by omega)
                                            · skip
                                              refine l_lets ?_
                                              exact fin G h S H (by omega) (by omega) (by omega)
