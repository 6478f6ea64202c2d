theorem S0_JJ : JJ S0 := ⟨fun i h => by have e : (S0.2.2.1 16 i).toInt = 0 := rfl; omega, fun i _ => rfl⟩
set_option maxRecDepth 100000 in
set_option maxHeartbeats 40000000 in
theorem law_one {L : Nat} {xs : Nat → Int32} {sz x m : Nat} (hL : L ≤ 9) (n : Nat) (G : GT) (h : sm_H) (H : PI x m G h) (p2 : sz ≤ h.1) (p3 : h.1 - sz ≤ 10000) (p4 : h.2.1 ≤ 1000000) : lJ sz (fL_law_18 L xs (n + 2) (some x) (some m) 0 h) := by
  have hLi : (Int32.ofNat L).toInt = (L : Int) := Int32.toInt_ofNat_of_lt (by omega)
  have L9 : (9 : Int32).toInt = 9 := rfl
  have L0 : (0 : Int32).toInt = 0 := rfl
  have hL9 : (Int32.ofNat L - 9).toInt = (L : Int) - 9 := by rw [i_sub (by omega) (by omega)]; omega
  unfold fL_law_18
  refine l_if (fun c => ?_) (fun c => ?_)
  · exact ⟨h, rfl, by omega, by omega⟩
  · have c1 : (0 : Int) ≤ (L : Int) - 9 := by rw [Int32.lt_iff_toInt_lt, hL9] at c; omega
    have fin : ∀ h2 : sm_H, h.1 ≤ h2.1 → h2.1 ≤ h.1 + 60 → h2.2.1 ≤ h.2.1 + 800 → lJ sz (fL_law_18 L xs (n + 1) (some x) (some m) ((0 : Int32) + (9 : Int32)) h2) := by
      intro h2 t1 t2 t3
      unfold fL_law_18
      rw [if_pos (by rw [Int32.lt_iff_toInt_lt, hL9, show ((0 : Int32) + 9).toInt = 9 from rfl]; omega)]
      exact ⟨h2, rfl, by omega, by omega⟩
    have X0 : ¬ ((0 : Int32) < 0 ∨ L ≤ (0 : Int32).toNatClampNeg) := n_ix (by decide) (by rw [L0]; omega)
    have X1 : ¬ (((0 : Int32) + (1 : Int32)) < 0 ∨ L ≤ ((0 : Int32) + (1 : Int32)).toNatClampNeg) := n_ix (by decide) (by rw [show ((0 : Int32) + (1 : Int32)).toInt = 1 from rfl]; omega)
    have X2 : ¬ (((0 : Int32) + (2 : Int32)) < 0 ∨ L ≤ ((0 : Int32) + (2 : Int32)).toNatClampNeg) := n_ix (by decide) (by rw [show ((0 : Int32) + (2 : Int32)).toInt = 2 from rfl]; omega)
    have X3 : ¬ (((0 : Int32) + (3 : Int32)) < 0 ∨ L ≤ ((0 : Int32) + (3 : Int32)).toNatClampNeg) := n_ix (by decide) (by rw [show ((0 : Int32) + (3 : Int32)).toInt = 3 from rfl]; omega)
    have X4 : ¬ (((0 : Int32) + (4 : Int32)) < 0 ∨ L ≤ ((0 : Int32) + (4 : Int32)).toNatClampNeg) := n_ix (by decide) (by rw [show ((0 : Int32) + (4 : Int32)).toInt = 4 from rfl]; omega)
    have X5 : ¬ (((0 : Int32) + (5 : Int32)) < 0 ∨ L ≤ ((0 : Int32) + (5 : Int32)).toNatClampNeg) := n_ix (by decide) (by rw [show ((0 : Int32) + (5 : Int32)).toInt = 5 from rfl]; omega)
    have X6 : ¬ (((0 : Int32) + (6 : Int32)) < 0 ∨ L ≤ ((0 : Int32) + (6 : Int32)).toNatClampNeg) := n_ix (by decide) (by rw [show ((0 : Int32) + (6 : Int32)).toInt = 6 from rfl]; omega)
    have X7 : ¬ (((0 : Int32) + (7 : Int32)) < 0 ∨ L ≤ ((0 : Int32) + (7 : Int32)).toNatClampNeg) := n_ix (by decide) (by rw [show ((0 : Int32) + (7 : Int32)).toInt = 7 from rfl]; omega)
    have X8 : ¬ (((0 : Int32) + (8 : Int32)) < 0 ∨ L ≤ ((0 : Int32) + (8 : Int32)).toNatClampNeg) := n_ix (by decide) (by rw [show ((0 : Int32) + (8 : Int32)).toInt = 8 from rfl]; omega)
    clear hL9 hLi L9 c
    refine l_nn X0 ?_
    refine l_lets ?_
    refine l_let (fun x1_ => ?_)
    refine l_if (fun c2_ => ?_) (fun c2_ => ?_)
    · skip
      refine l_nn X1 ?_
      refine l_lets ?_
      refine l_nn X2 ?_
      refine l_lets ?_
      refine l_nn X3 ?_
      refine l_lets ?_
      refine l_ox H ?_
      refine l_X H (RA_W (kX11_feed H.1.1.1 H.1.1.2)) (by simp) (c_feed H.1) (fun r3_ h4_ p5_ M9_ s6_ u7_ w8_ => ?_)
      refine l_nn X1 ?_
      refine l_lets ?_
      refine l_nn X2 ?_
      refine l_lets ?_
      refine l_nn X3 ?_
      refine l_lets ?_
      refine l_om M9_ ?_
      refine l_Y (tM_feed_0 _ _ _ _ _ M9_) (nM_feed S0_MI) d_feed (fun r10_ h11_ p12_ s13_ u14_ => ?_)
      have e17_ := u_feed p5_ p12_
      rw [if_pos (e17_)]
      refine l_lets ?_
      exact fin h11_ (by omega) (by omega) (by omega)
    · skip
      refine l_if (fun c18_ => ?_) (fun c18_ => ?_)
      · skip
        refine l_nn X1 ?_
        refine l_lets ?_
        refine l_nn X2 ?_
        refine l_lets ?_
        refine l_ox H ?_
        refine l_X H (RA_W (kX11_number H.1.1.1 H.1.1.2)) (by simp) (c_number H.1) (fun r19_ h20_ p21_ M25_ s22_ u23_ w24_ => ?_)
        refine l_nn X1 ?_
        refine l_lets ?_
        refine l_nn X2 ?_
        refine l_lets ?_
        refine l_om M25_ ?_
        refine l_Y (tM_number_0 _ _ _ _ M25_) (nM_number S0_MI) d_number (fun r26_ h27_ p28_ s29_ u30_ => ?_)
        have e33_ := u_number p21_ p28_
        rw [if_pos (e33_)]
        refine l_lets ?_
        exact fin h27_ (by omega) (by omega) (by omega)
      · skip
        refine l_if (fun c34_ => ?_) (fun c34_ => ?_)
        · skip
          refine l_nn X1 ?_
          refine l_lets ?_
          refine l_nn X2 ?_
          refine l_lets ?_
          refine l_nn X3 ?_
          refine l_lets ?_
          refine l_nn X4 ?_
          refine l_lets ?_
          refine l_nn X5 ?_
          refine l_lets ?_
          refine l_nn X6 ?_
          refine l_lets ?_
          refine l_ox H ?_
          refine l_X H (kX11_scalar H.1.1.1 H.1.1.2) (by simp) (c_scalar H.1) (fun r35_ h36_ p37_ M41_ s38_ u39_ w40_ => ?_)
          refine l_nn X1 ?_
          refine l_lets ?_
          refine l_nn X2 ?_
          refine l_lets ?_
          refine l_nn X3 ?_
          refine l_lets ?_
          refine l_nn X4 ?_
          refine l_lets ?_
          refine l_nn X5 ?_
          refine l_lets ?_
          refine l_nn X6 ?_
          refine l_lets ?_
          refine l_om M41_ ?_
          refine l_Y (tM_scalar_0 _ _ _ _ _ _ _ M41_) (nM_scalar S0_MI) d_scalar (fun r42_ h43_ p44_ s45_ u46_ => ?_)
          have e49_ := p37_.trans p44_.symm
          rw [if_pos (e49_)]
          refine l_lets ?_
          exact fin h43_ (by omega) (by omega) (by omega)
        · skip
          refine l_if (fun c50_ => ?_) (fun c50_ => ?_)
          · skip
            refine l_ox H ?_
            refine l_X H (kX11_table H.1.1.1 H.1.1.2) (by simp) (c_table H.1) (fun r51_ h52_ p53_ M57_ s54_ u55_ w56_ => ?_)
            refine l_om M57_ ?_
            refine l_Y (tM_table_0 _ _ _ M57_) (nM_table S0_MI) d_table (fun r58_ h59_ p60_ s61_ u62_ => ?_)
            have e65_ := p53_.trans p60_.symm
            rw [if_pos (e65_)]
            refine l_lets ?_
            exact fin h59_ (by omega) (by omega) (by omega)
          · skip
            refine l_if (fun c66_ => ?_) (fun c66_ => ?_)
            · skip
              refine l_nn X1 ?_
              refine l_lets ?_
              refine l_nn X2 ?_
              refine l_lets ?_
              refine l_nn X3 ?_
              refine l_lets ?_
              refine l_nn X4 ?_
              refine l_lets ?_
              refine l_nn X5 ?_
              refine l_lets ?_
              refine l_nn X6 ?_
              refine l_lets ?_
              refine l_nn X7 ?_
              refine l_lets ?_
              refine l_nn X8 ?_
              refine l_lets ?_
              refine l_ox H ?_
              refine l_X H (kX11_column H.1.1.1 H.1.1.2) (by simp) (c_column H.1) (fun r67_ h68_ p69_ M73_ s70_ u71_ w72_ => ?_)
              refine l_nn X1 ?_
              refine l_lets ?_
              refine l_nn X2 ?_
              refine l_lets ?_
              refine l_nn X3 ?_
              refine l_lets ?_
              refine l_nn X4 ?_
              refine l_lets ?_
              refine l_nn X5 ?_
              refine l_lets ?_
              refine l_nn X6 ?_
              refine l_lets ?_
              refine l_nn X7 ?_
              refine l_lets ?_
              refine l_nn X8 ?_
              refine l_lets ?_
              refine l_om M73_ ?_
              refine l_Y (tM_column_0 _ _ _ _ _ _ _ _ _ M73_) (nM_column S0_MI) d_column (fun r74_ h75_ p76_ s77_ u78_ => ?_)
              have e81_ := p69_.trans p76_.symm
              rw [if_pos (e81_)]
              refine l_lets ?_
              exact fin h75_ (by omega) (by omega) (by omega)
            · skip
              refine l_if (fun c82_ => ?_) (fun c82_ => ?_)
              · skip
                refine l_nn X1 ?_
                refine l_lets ?_
                refine l_nn X2 ?_
                refine l_lets ?_
                refine l_ox H ?_
                refine l_X H (kX11_status H.1.1.1 H.1.1.2) (by simp) (c_status H.1) (fun r83_ h84_ p85_ M89_ s86_ u87_ w88_ => ?_)
                refine l_nn X1 ?_
                refine l_lets ?_
                refine l_nn X2 ?_
                refine l_lets ?_
                refine l_om M89_ ?_
                refine l_Y (tM_status_0 _ _ _ _ _ M89_) (nM_status S0_MI) d_status (fun r90_ h91_ p92_ s93_ u94_ => ?_)
                have e97_ := p85_.trans p92_.symm
                rw [if_pos (e97_)]
                refine l_lets ?_
                exact fin h91_ (by omega) (by omega) (by omega)
              · skip
                refine l_if (fun c98_ => ?_) (fun c98_ => ?_)
                · skip
                  refine l_nn X1 ?_
                  refine l_lets ?_
                  refine l_nn X2 ?_
                  refine l_lets ?_
                  refine l_nn X3 ?_
                  refine l_lets ?_
                  refine l_if (fun c99_ => ?_) (fun c99_ => ?_)
                  · skip
                    unfold fL_law_568
                    refine l_ox H ?_
                    refine l_X H (RA_W (kX11_row H.1.1.1 H.1.1.2 (by decide))) (by simp) (c_row H.1) (fun r100_ h101_ p102_ M106_ s103_ u104_ w105_ => ?_)
                    refine l_nn X1 ?_
                    refine l_lets ?_
                    refine l_nn X2 ?_
                    refine l_lets ?_
                    refine l_nn X3 ?_
                    refine l_lets ?_
                    refine l_if (fun c107_ => ?_) (fun c107_ => ?_)
                    · skip
                      refine l_om M106_ ?_
                      refine l_Y (tM_row_0 _ _ _ _ _ _ M106_) (nM_row S0_MI (by decide)) d_row (fun r108_ h109_ p110_ s111_ u112_ => ?_)
                      have e115_ := p102_.trans p110_.symm
                      rw [if_pos (e115_)]
                      refine l_lets ?_
                      exact fin h109_ (by omega) (by omega) (by omega)
                    · skip
                      refine l_om M106_ ?_
                      refine l_Y (tM_row_0 _ _ _ _ _ _ M106_) (nM_row S0_MI (by decide)) d_row (fun r116_ h117_ p118_ s119_ u120_ => ?_)
                      have e123_ := p102_.trans p118_.symm
                      rw [if_pos (e123_)]
                      refine l_lets ?_
                      exact fin h117_ (by omega) (by omega) (by omega)
                  · skip
                    unfold fL_law_568
                    refine l_ox H ?_
                    refine l_X H (RA_W (kX11_row H.1.1.1 H.1.1.2 (by decide))) (by simp) (c_row H.1) (fun r124_ h125_ p126_ M130_ s127_ u128_ w129_ => ?_)
                    refine l_nn X1 ?_
                    refine l_lets ?_
                    refine l_nn X2 ?_
                    refine l_lets ?_
                    refine l_nn X3 ?_
                    refine l_lets ?_
                    refine l_if (fun c131_ => ?_) (fun c131_ => ?_)
                    · skip
                      refine l_om M130_ ?_
                      refine l_Y (tM_row_0 _ _ _ _ _ _ M130_) (nM_row S0_MI (by decide)) d_row (fun r132_ h133_ p134_ s135_ u136_ => ?_)
                      have e139_ := p126_.trans p134_.symm
                      rw [if_pos (e139_)]
                      refine l_lets ?_
                      exact fin h133_ (by omega) (by omega) (by omega)
                    · skip
                      refine l_om M130_ ?_
                      refine l_Y (tM_row_0 _ _ _ _ _ _ M130_) (nM_row S0_MI (by decide)) d_row (fun r140_ h141_ p142_ s143_ u144_ => ?_)
                      have e147_ := p126_.trans p142_.symm
                      rw [if_pos (e147_)]
                      refine l_lets ?_
                      exact fin h141_ (by omega) (by omega) (by omega)
                · skip
                  refine l_if (fun c148_ => ?_) (fun c148_ => ?_)
                  · skip
                    refine l_nn X1 ?_
                    refine l_lets ?_
                    refine l_nn X2 ?_
                    refine l_lets ?_
                    refine l_nn X3 ?_
                    refine l_lets ?_
                    refine l_nn X4 ?_
                    refine l_lets ?_
                    refine l_ox H ?_
                    refine l_X H (RA_W (kX11_value H.1.1.1 H.1.1.2)) (by simp) (c_value H.1) (fun r149_ h150_ p151_ M155_ s152_ u153_ w154_ => ?_)
                    refine l_nn X1 ?_
                    refine l_lets ?_
                    refine l_nn X2 ?_
                    refine l_lets ?_
                    refine l_nn X3 ?_
                    refine l_lets ?_
                    refine l_nn X4 ?_
                    refine l_lets ?_
                    refine l_om M155_ ?_
                    refine l_Y (tM_value_0 _ _ _ _ _ _ M155_) (nM_value S0_MI) d_value (fun r156_ h157_ p158_ s159_ u160_ => ?_)
                    have e163_ := p151_.trans p158_.symm
                    rw [if_pos (e163_)]
                    refine l_lets ?_
                    exact fin h157_ (by omega) (by omega) (by omega)
                  · skip
                    refine l_if (fun c164_ => ?_) (fun c164_ => ?_)
                    · skip
                      refine l_nn X1 ?_
                      refine l_lets ?_
                      refine l_nn X2 ?_
                      refine l_lets ?_
                      refine l_ox H ?_
                      refine l_X H (RA_W (kX11_text H.1.1.1 H.1.1.2)) (by simp) (c_text H.1) (fun r165_ h166_ p167_ M171_ s168_ u169_ w170_ => ?_)
                      refine l_nn X1 ?_
                      refine l_lets ?_
                      refine l_nn X2 ?_
                      refine l_lets ?_
                      refine l_om M171_ ?_
                      refine l_Y (tM_text_0 _ _ _ _ _ M171_) (nM_text S0_MI) d_text (fun r172_ h173_ p174_ s175_ u176_ => ?_)
                      have e179_ := p167_.trans p174_.symm
                      rw [if_pos (e179_)]
                      refine l_lets ?_
                      exact fin h173_ (by omega) (by omega) (by omega)
                    · skip
                      refine l_if (fun c180_ => ?_) (fun c180_ => ?_)
                      · skip
                        refine l_nn X1 ?_
                        refine l_lets ?_
                        refine l_nn X2 ?_
                        refine l_lets ?_
                        refine l_ox H ?_
                        refine l_X H (RA_W (kX11_identity H.1.1.1 H.1.1.2)) (by simp) (c_identity H.1) (fun r181_ h182_ p183_ M187_ s184_ u185_ w186_ => ?_)
                        refine l_nn X1 ?_
                        refine l_lets ?_
                        refine l_nn X2 ?_
                        refine l_lets ?_
                        refine l_om M187_ ?_
                        refine l_Y (tM_identity_0 _ _ _ _ _ M187_) (nM_identity S0_MI) d_identity (fun r188_ h189_ p190_ s191_ u192_ => ?_)
                        have e195_ := p183_.trans p190_.symm
                        rw [if_pos (e195_)]
                        refine l_lets ?_
                        exact fin h189_ (by omega) (by omega) (by omega)
                      · skip
                        refine l_if (fun c196_ => ?_) (fun c196_ => ?_)
                        · skip
                          refine l_nn X1 ?_
                          refine l_lets ?_
                          refine l_if (fun c197_ => ?_) (fun c197_ => ?_)
                          · skip
                            unfold fL_law_756
                            refine l_ox H ?_
                            refine l_X H (kX11_community H.1.1.1 H.1.1.2 (by decide)) (by simp) (c_community H.1 (by decide)) (fun r198_ h199_ p200_ M204_ s201_ u202_ w203_ => ?_)
                            refine l_nn X1 ?_
                            refine l_lets ?_
                            refine l_if (fun c205_ => ?_) (fun c205_ => ?_)
                            · skip
                              refine l_om M204_ ?_
                              refine l_Y (tM_community_0 _ _ _ _ M204_) (nM_community S0_MI (by decide)) (d_community (by decide)) (fun r206_ h207_ p208_ s209_ u210_ => ?_)
                              have e213_ := u_community p200_ p208_
                              rw [if_pos (e213_)]
                              refine l_lets ?_
                              exact fin h207_ (by omega) (by omega) (by omega)
                            · skip
                              refine l_om M204_ ?_
                              refine l_Y (tM_community_0 _ _ _ _ M204_) (nM_community S0_MI (by decide)) (d_community (by decide)) (fun r214_ h215_ p216_ s217_ u218_ => ?_)
                              have e221_ := u_community p200_ p216_
                              rw [if_pos (e221_)]
                              refine l_lets ?_
                              exact fin h215_ (by omega) (by omega) (by omega)
                          · skip
                            unfold fL_law_756
                            refine l_ox H ?_
                            refine l_X H (kX11_community H.1.1.1 H.1.1.2 (by decide)) (by simp) (c_community H.1 (by decide)) (fun r222_ h223_ p224_ M228_ s225_ u226_ w227_ => ?_)
                            refine l_nn X1 ?_
                            refine l_lets ?_
                            refine l_if (fun c229_ => ?_) (fun c229_ => ?_)
                            · skip
                              refine l_om M228_ ?_
                              refine l_Y (tM_community_0 _ _ _ _ M228_) (nM_community S0_MI (by decide)) (d_community (by decide)) (fun r230_ h231_ p232_ s233_ u234_ => ?_)
                              have e237_ := u_community p224_ p232_
                              rw [if_pos (e237_)]
                              refine l_lets ?_
                              exact fin h231_ (by omega) (by omega) (by omega)
                            · skip
                              refine l_om M228_ ?_
                              refine l_Y (tM_community_0 _ _ _ _ M228_) (nM_community S0_MI (by decide)) (d_community (by decide)) (fun r238_ h239_ p240_ s241_ u242_ => ?_)
                              have e245_ := u_community p224_ p240_
                              rw [if_pos (e245_)]
                              refine l_lets ?_
                              exact fin h239_ (by omega) (by omega) (by omega)
                        · skip
                          refine l_if (fun c246_ => ?_) (fun c246_ => ?_)
                          · skip
                            refine l_nn X1 ?_
                            refine l_lets ?_
                            refine l_nn X2 ?_
                            refine l_lets ?_
                            refine l_if (fun c247_ => ?_) (fun c247_ => ?_)
                            · skip
                              unfold fL_law_800
                              refine l_ox H ?_
                              refine l_X H (kX11_view H.1.1.1 H.1.1.2 (by decide)) (by simp) (c_view H.1 (by decide)) (fun r248_ h249_ p250_ M254_ s251_ u252_ w253_ => ?_)
                              refine l_nn X1 ?_
                              refine l_lets ?_
                              refine l_nn X2 ?_
                              refine l_lets ?_
                              refine l_if (fun c255_ => ?_) (fun c255_ => ?_)
                              · skip
                                refine l_om M254_ ?_
                                refine l_Y (tM_view_0 _ _ _ _ _ M254_) (nM_view S0_MI (by decide)) (d_view (by decide)) (fun r256_ h257_ p258_ s259_ u260_ => ?_)
                                have e263_ := p250_.trans p258_.symm
                                rw [if_pos (e263_)]
                                refine l_lets ?_
                                exact fin h257_ (by omega) (by omega) (by omega)
                              · skip
                                refine l_om M254_ ?_
                                refine l_Y (tM_view_0 _ _ _ _ _ M254_) (nM_view S0_MI (by decide)) (d_view (by decide)) (fun r264_ h265_ p266_ s267_ u268_ => ?_)
                                have e271_ := p250_.trans p266_.symm
                                rw [if_pos (e271_)]
                                refine l_lets ?_
                                exact fin h265_ (by omega) (by omega) (by omega)
                            · skip
                              unfold fL_law_800
                              refine l_ox H ?_
                              refine l_X H (kX11_view H.1.1.1 H.1.1.2 (by decide)) (by simp) (c_view H.1 (by decide)) (fun r272_ h273_ p274_ M278_ s275_ u276_ w277_ => ?_)
                              refine l_nn X1 ?_
                              refine l_lets ?_
                              refine l_nn X2 ?_
                              refine l_lets ?_
                              refine l_if (fun c279_ => ?_) (fun c279_ => ?_)
                              · skip
                                refine l_om M278_ ?_
                                refine l_Y (tM_view_0 _ _ _ _ _ M278_) (nM_view S0_MI (by decide)) (d_view (by decide)) (fun r280_ h281_ p282_ s283_ u284_ => ?_)
                                have e287_ := p274_.trans p282_.symm
                                rw [if_pos (e287_)]
                                refine l_lets ?_
                                exact fin h281_ (by omega) (by omega) (by omega)
                              · skip
                                refine l_om M278_ ?_
                                refine l_Y (tM_view_0 _ _ _ _ _ M278_) (nM_view S0_MI (by decide)) (d_view (by decide)) (fun r288_ h289_ p290_ s291_ u292_ => ?_)
                                have e295_ := p274_.trans p290_.symm
                                rw [if_pos (e295_)]
                                refine l_lets ?_
                                exact fin h289_ (by omega) (by omega) (by omega)
                          · skip
                            refine l_if (fun c296_ => ?_) (fun c296_ => ?_)
                            · skip
                              refine l_nn X1 ?_
                              refine l_lets ?_
                              refine l_ox H ?_
                              refine l_X H (RA_W (kX11_limit H.1.1.1 H.1.1.2)) (by simp) (c_limit H.1) (fun r297_ h298_ p299_ M303_ s300_ u301_ w302_ => ?_)
                              refine l_nn X1 ?_
                              refine l_lets ?_
                              refine l_om M303_ ?_
                              refine l_Y (tM_limit_0 _ _ _ _ M303_) (nM_limit S0_MI) d_limit (fun r304_ h305_ p306_ s307_ u308_ => ?_)
                              have e311_ := p299_.trans p306_.symm
                              rw [if_pos (e311_)]
                              refine l_lets ?_
                              exact fin h305_ (by omega) (by omega) (by omega)
                            · skip
                              refine l_if (fun c312_ => ?_) (fun c312_ => ?_)
                              · skip
                                refine l_nn X1 ?_
                                refine l_lets ?_
                                refine l_nn X2 ?_
                                refine l_lets ?_
                                refine l_ox H ?_
                                refine l_X H (RA_W (kX11_tick H.1.1.1 H.1.1.2)) (by simp) (c_tick H.1) (fun r313_ h314_ p315_ M319_ s316_ u317_ w318_ => ?_)
                                refine l_nn X1 ?_
                                refine l_lets ?_
                                refine l_nn X2 ?_
                                refine l_lets ?_
                                refine l_om M319_ ?_
                                refine l_Y (tM_tick_0 _ _ _ _ M319_) (nM_tick S0_MI) d_tick (fun r320_ h321_ p322_ s323_ u324_ => ?_)
                                have e327_ := p315_.trans p322_.symm
                                rw [if_pos ((lg_cmp_0 _ _).mpr e327_)]
                                refine l_lets ?_
                                exact fin h321_ (by omega) (by omega) (by omega)
                              · skip
                                refine l_if (fun c328_ => ?_) (fun c328_ => ?_)
                                · skip
                                  refine l_ox H ?_
                                  refine l_X H (RA_W (kX11_question H.1.1.1 H.1.1.2)) (by simp) (c_question H.1) (fun r329_ h330_ p331_ M335_ s332_ u333_ w334_ => ?_)
                                  refine l_om M335_ ?_
                                  refine l_Y (tM_question_0 _ _ _ M335_) (nM_question S0_MI S0_JJ) d_question (fun r336_ h337_ p338_ s339_ u340_ => ?_)
                                  have e343_ := p331_.trans p338_.symm
                                  rw [if_pos (e343_)]
                                  refine l_lets ?_
                                  exact fin h337_ (by omega) (by omega) (by omega)
                                · skip
                                  refine l_if (fun c344_ => ?_) (fun c344_ => ?_)
                                  · skip
                                    refine l_nn X1 ?_
                                    refine l_lets ?_
                                    refine l_ox H ?_
                                    refine l_X H (RA_P H.1.1.1 (kX11_answer H.1.1.1 H.1.1.2)) (by simp) (c_answer H.1) (fun r345_ h346_ p347_ M351_ s348_ u349_ w350_ => ?_)
                                    refine l_nn X1 ?_
                                    refine l_lets ?_
                                    refine l_om M351_ ?_
                                    refine l_Y (tM_answer_0 _ _ _ _ M351_) (nM_answer S0_MI) d_answer (fun r352_ h353_ p354_ s355_ u356_ => ?_)
                                    have e359_ := p347_.trans p354_.symm
                                    rw [if_pos (e359_)]
                                    refine l_lets ?_
                                    exact fin h353_ (by omega) (by omega) (by omega)
                                  · skip
                                    refine l_if (fun c360_ => ?_) (fun c360_ => ?_)
                                    · skip
                                      refine l_nn X1 ?_
                                      refine l_lets ?_
                                      refine l_ox H ?_
                                      refine l_X H (RA_P H.1.1.1 (kX11_count H.1.1.1 H.1.1.2)) (by simp) (c_count H.1) (fun r361_ h362_ p363_ M367_ s364_ u365_ w366_ => ?_)
                                      refine l_nn X1 ?_
                                      refine l_lets ?_
                                      refine l_om M367_ ?_
                                      refine l_Y (tM_count_0 _ _ _ _ M367_) (nM_count S0_MI) d_count (fun r368_ h369_ p370_ s371_ u372_ => ?_)
                                      have e375_ := p363_.trans p370_.symm
                                      rw [if_pos (e375_)]
                                      refine l_lets ?_
                                      exact fin h369_ (by omega) (by omega) (by omega)
                                    · skip
                                      refine l_if (fun c376_ => ?_) (fun c376_ => ?_)
                                      · skip
                                        refine l_nn X1 ?_
                                        refine l_lets ?_
                                        refine l_ox H ?_
                                        refine l_X H (RA_P H.1.1.1 (kX11_rows H.1.1.1 H.1.1.2)) (by simp) (c_rows H.1) (fun r377_ h378_ p379_ M383_ s380_ u381_ w382_ => ?_)
                                        refine l_nn X1 ?_
                                        refine l_lets ?_
                                        refine l_om M383_ ?_
                                        refine l_Y (tM_rows_0 _ _ _ _ M383_) (nM_rows S0_MI) d_rows (fun r384_ h385_ p386_ s387_ u388_ => ?_)
                                        have e391_ := p379_.trans p386_.symm
                                        rw [if_pos (e391_)]
                                        refine l_lets ?_
                                        exact fin h385_ (by omega) (by omega) (by omega)
                                      · skip
                                        refine l_if (fun c392_ => ?_) (fun c392_ => ?_)
                                        · skip
                                          refine l_nn X1 ?_
                                          refine l_lets ?_
                                          refine l_nn X2 ?_
                                          refine l_lets ?_
                                          refine l_ox H ?_
                                          refine l_X H (RA_P H.1.1.1 (kX11_told H.1.1.1 H.1.1.2)) (by simp) (c_told H.1) (fun r393_ h394_ p395_ M399_ s396_ u397_ w398_ => ?_)
                                          refine l_nn X1 ?_
                                          refine l_lets ?_
                                          refine l_nn X2 ?_
                                          refine l_lets ?_
                                          refine l_om M399_ ?_
                                          refine l_Y (tM_told_0 _ _ _ _ _ M399_) (nM_told S0_MI) d_told (fun r400_ h401_ p402_ s403_ u404_ => ?_)
                                          have e407_ := p395_.trans p402_.symm
                                          rw [if_pos ((lg_cmp_0 _ _).mpr e407_)]
                                          refine l_lets ?_
                                          exact fin h401_ (by omega) (by omega) (by omega)
                                        · skip
                                          refine l_if (fun c408_ => ?_) (fun c408_ => ?_)
                                          · skip
                                            refine l_nn X1 ?_
                                            refine l_lets ?_
                                            refine l_nn X2 ?_
                                            refine l_lets ?_
                                            refine l_nn X3 ?_
                                            refine l_lets ?_
                                            refine l_ox H ?_
                                            refine l_X H (RA_P H.1.1.1 (kX11_part H.1.1.1 H.1.1.2)) (by simp) (c_part H.1) (fun r409_ h410_ p411_ M415_ s412_ u413_ w414_ => ?_)
                                            refine l_nn X1 ?_
                                            refine l_lets ?_
                                            refine l_nn X2 ?_
                                            refine l_lets ?_
                                            refine l_nn X3 ?_
                                            refine l_lets ?_
                                            refine l_om M415_ ?_
                                            refine l_Y (tM_part_0 _ _ _ _ _ _ M415_) (nM_part S0_MI) d_part (fun r416_ h417_ p418_ s419_ u420_ => ?_)
                                            have e423_ := p411_.trans p418_.symm
                                            rw [if_pos ((lg_cmp_0 _ _).mpr e423_)]
                                            refine l_lets ?_
                                            exact fin h417_ (by omega) (by omega) (by omega)
                                          · skip
                                            refine l_lets ?_
                                            exact fin h (by omega) (by omega) (by omega)
set_option maxRecDepth 100000 in
set_option maxHeartbeats 4000000 in
theorem law_pure_ok : law_pure := by
  intro L xs sz hL
  show lJ sz (fL_law L xs (sz, 0, fun _ => none))
  unfold fL_law
  have W1 : Wf (fun _ => (0, 0, 0)) (sm_new (sz, 0, fun _ => none) 11 [.null, .null, .null, .null, .null, .null, .null, .null, .null, .null, .null, .null, .null, .null, .int 0, .int 0, .long 0]) := fun a ha => absurd rfl ha
  refine l_letv (fun h1 e1 => ?_)
  rw [← e1] at W1
  have s1 : h1.1 = sz + 1 := by rw [e1]; rfl
  have u1 : h1.2.1 = 17 := by rw [e1]; rfl
  have c1 : h1.2.2 sz = some (.inr (11, [.null, .null, .null, .null, .null, .null, .null, .null, .null, .null, .null, .null, .null, .null, .int 0, .int 0, .long 0])) := by rw [e1]; simp [sm_new, va_up]
  obtain ⟨_, h2, G2, e2, ⟨W2, m2, s2, u2, -, -⟩, t2, ⟨tp, it, q2, tt, ti, hl, rd, g5, g50⟩, ⟨hp, hi, q3, th, tk, hk⟩, ⟨ca, g3, g14, gc⟩, ⟨tr, tth, tio, ttb, e0, er, eh, eb⟩, ⟨cn, g8, ec⟩, ⟨rp, oc, g7, g6, g1⟩, g15, g16⟩ := kXP11_init W1 (by omega) rfl c1
  show lJ sz (sm_cb (fX11_init sz h1) _)
  rw [e2, pu_cb]
  refine l_letv (fun h3 e3 => ?_)
  have s3 : h3.1 = h2.1 + 1 := by rw [e3]; rfl
  have u3 : h3.2.1 = h2.2.1 + 66 := by rw [e3]; rfl
  have c3 : h3.2.2 h2.1 = some (.inr (12, (List.range 66).map (mW h2.1 0 0))) := by rw [e3]; simp only [sm_new, va_up, if_pos rfl]; rfl
  have o3 : ∀ b, b ≠ h2.1 → h3.2.2 b = h2.2.2 b := fun b hb => by rw [e3]; simp [sm_new, va_up, hb]
  obtain ⟨h4, e4, M4, s4, u4, o4⟩ := mo_init s3 c3
  show lJ sz (sm_cb (fX12_init h2.1 h3) _)
  rw [e4, pu_cb]
  have keep : ∀ b, b < h2.1 → h4.2.2 b = h2.2.2 b := fun b hb => by rw [o4 b (fun q => by have := q.1; omega), o3 b (by omega)]
  have W4 : Wf G2 h4 := fun b hb => by
    obtain ⟨p1, e, p2, p3⟩ := W2 b hb
    exact ⟨by omega, e, by rw [keep b p1]; exact p2, p3⟩
  have kx := keep sz (tG_lt W2 t2 (by decide))
  have kt := keep tp (tG_lt W2 tt (by decide))
  have kh := keep hp (tG_lt W2 th (by decide))
  have kc := keep ca (tG_lt W2 (kw_ref (ci := 11) (k := 3) W2 t2 (by decide) rfl rfl g3) (by decide))
  have trd : tG G2 rd 6 0 := kw_ref (ci := 11) (k := 5) W2 t2 (by decide) rfl rfl g5
  have trp : tG G2 rp 7 0 := kw_ref (ci := 11) (k := 7) W2 t2 (by decide) rfl rfl g7
  have ttr : tG G2 tr 10 0 := kw_ref (ci := 11) (k := 2) W2 t2 (by decide) rfl rfl e0
  have kd := keep rd (tG_lt W2 trd (by decide))
  have kp := keep rp (tG_lt W2 trp (by decide))
  have kr := keep tr (tG_lt W2 ttr (by decide))
  have ko := keep oc (tG_lt W2 (kw_ref (ci := 6) (k := 0) W2 trp (by decide) rfl rfl g6) (by decide))
  have kn := keep cn (tG_lt W2 (kw_ref (ci := 11) (k := 8) W2 t2 (by decide) rfl rfl g8) (by decide))
  have k1 := keep tth (tG_lt W2 (kw_ref (ci := 9) (k := 0) W2 ttr (by decide) rfl rfl (by rw [pu_get er]; rfl)) (by decide))
  have k2 := keep ttb (tG_lt W2 (kw_ref (ci := 9) (k := 2) W2 ttr (by decide) rfl rfl (by rw [pu_get er]; rfl)) (by decide))
  have H : PI sz h2.1 G2 h4 := by
    refine ⟨⟨⟨W4, t2⟩, ⟨tp, it, ⟨kg_fr kx q2.1, kg_fr kt q2.2.1, kg_fr kt q2.2.2⟩, tt, ti, hl, rd, kg_fr kx g5, kg_fr kd g50⟩, ⟨hp, hi, ⟨kg_fr kx q3.1, kg_fr kh q3.2.1, kg_fr kh q3.2.2⟩, th, tk, hk⟩, ⟨ca, kg_fr kx g3, kg_fr kx g14, kc.trans gc⟩, ⟨tr, tth, tio, ttb, kg_fr kx e0, kr.trans er, k1.trans eh, k2.trans eb⟩, ⟨cn, kg_fr kx g8, kn.trans ec⟩, ⟨rp, oc, kg_fr kx g7, kg_fr kp g6, kg_fr ko g1⟩, kg_fr kx g15, kg_fr kx g16⟩, M4, fun c hc => ⟨?_, ?_⟩⟩
    · rcases Nat.eq_zero_or_pos (G2 c).1 with q | q
      · exact q
      · have := (W2 c (by omega)).1; have := hc.1; omega
    · have := hc.2; omega
  obtain ⟨n, hn⟩ : ∃ n, sm_fuel = n + 2 := ⟨99998, by rw [sm_fuel_eq]⟩
  rw [hn]
  exact law_one hL n G2 h4 H (by omega) (by omega) (by omega)
