-- fX11_tellMany
set_option maxHeartbeats 4000000 in
theorem kX11_tellMany {G : GT} {a0 : Nat} {h : sm_H} (Wh : Wf G h) (t_a0 : tG G a0 12 0) : kJ (RW [(1, 0), (5, 0), (7, 0), (21, 0)] G h (fun (r : Unit) (_ : sm_H) => True)) (fX11_tellMany a0 h) := by
  have L0 : (0 : Int32).toInt = 0 := rfl
  have L1 : (1 : Int32).toInt = 1 := rfl
  unfold fX11_tellMany
  refine k_gR (r' := 0) Wh t_a0 (by decide) rfl rfl (fun x11_ e2_ tx11_ => ?_)
  refine k_gI Wh tx11_ (by decide) rfl (fun x23_ e4_ x23_l x23_u => ?_)
  refine k_ltl (fun x35_ x35_q => ?_)
  refine k_kR e2_ ?_
  refine k_gI Wh tx11_ (by decide) rfl (fun x56_ e7_ x56_l x56_u => ?_)
  refine k_ltl (fun x68_ x68_q => ?_)
  refine k_kR e2_ ?_
  refine k_kI e7_ ?_
  first | refine k_sub (by omega) (by omega) (fun x99_ x99_q => ?_) | refine k_let (fun x99_ => ?_)
  refine k_kR e2_ ?_
  refine k_gI Wh tx11_ (by decide) rfl (fun x1110_ e11_ x1110_l x1110_u => ?_)
  refine k_ltl (fun x1212_ x1212_q => ?_)
  refine k_let (fun x1313_ => ?_)
  exact k_WW (kX11_tellMany_57 _ _ _ _ _ _ _ _ Wh t_a0 (by first | omega | assumption | decide) (by first | omega | assumption | decide) (by simp only [sm_fuel_eq]; omega)) (by first | decide | exact fun _ q => q) (fun _ _ _ q => q)

-- fX11_errorInVersion
set_option maxHeartbeats 4000000 in
theorem kX11_errorInVersion {G : GT} {a0 : Nat} {a1 : Int32} {h : sm_H} (Wh : Wf G h) (t_a0 : tG G a0 12 0) : kJ (RP G h (fun r : Int32 => True)) (fX11_errorInVersion a0 a1 h) := by
  have L0 : (0 : Int32).toInt = 0 := rfl
  have L1 : (1 : Int32).toInt = 1 := rfl
  have L2 : (2 : Int32).toInt = 2 := rfl
  have L3 : (3 : Int32).toInt = 3 := rfl
  have L5 : (5 : Int32).toInt = 5 := rfl
  have L7 : (7 : Int32).toInt = 7 := rfl
  have L8 : (8 : Int32).toInt = 8 := rfl
  have L9 : (9 : Int32).toInt = 9 := rfl
  have L10 : (10 : Int32).toInt = 10 := rfl
  have L11 : (11 : Int32).toInt = 11 := rfl
  have L12 : (12 : Int32).toInt = 12 := rfl
  have L13 : (13 : Int32).toInt = 13 := rfl
  unfold fX11_errorInVersion
  refine k_gR (r' := 0) Wh t_a0 (by decide) rfl rfl (fun x11_ e2_ tx11_ => ?_)
  refine k_gI Wh tx11_ (by decide) rfl (fun x23_ e4_ x23_l x23_u => ?_)
  refine k_if (fun c5_ => ?_) (fun c5_ => ?_)
  · skip
    refine k_if (fun c6_ => ?_) (fun c6_ => ?_)
    · skip
      exact k_rP trivial
    · skip
      refine k_if (fun c7_ => ?_) (fun c7_ => ?_)
      · skip
        exact k_rP trivial
      · skip
        refine k_if (fun c8_ => ?_) (fun c8_ => ?_)
        · skip
          exact k_rP trivial
        · skip
          refine k_if (fun c9_ => ?_) (fun c9_ => ?_)
          · skip
            exact k_rP trivial
          · skip
            refine k_if (fun c10_ => ?_) (fun c10_ => ?_)
            · skip
              exact k_rP trivial
            · skip
              refine k_if (fun c11_ => ?_) (fun c11_ => ?_)
              · skip
                exact k_rP trivial
              · skip
                refine k_if (fun c12_ => ?_) (fun c12_ => ?_)
                · skip
                  exact k_rP trivial
                · skip
                  exact k_rP trivial
  · skip
    exact k_rP trivial

-- fX11_tellSet_56
set_option maxHeartbeats 4000000 in
theorem kX11_tellSet_56 {G : GT} : ∀ (n : Nat) (a0 : Nat) (a1 : Int32) (h : sm_H), Wf G h → tG G a0 12 0 → 0 ≤ a1.toInt → a1.toInt ≤ 1200 → 1200 - a1.toInt < (n : Int) → kJ (RW [(1, 0), (5, 0), (7, 0), (21, 0)] G h (fun (r : Unit) (_ : sm_H) => True)) (fX11_tellSet_56 n a0 a1 h) := by
  have L0 : (0 : Int32).toInt = 0 := rfl
  have L1 : (1 : Int32).toInt = 1 := rfl
  intro n
  induction n with
  | zero => intro a0 a1 h Wh t_a0 p0_ p1_ m_; exfalso; omega
  | succ n ih =>
    intro a0 a1 h Wh t_a0 p0_ p1_ m_
    unfold fX11_tellSet_56
    refine k_gR (r' := 0) Wh t_a0 (by decide) rfl rfl (fun x11_ e2_ tx11_ => ?_)
    refine k_gI Wh tx11_ (by decide) rfl (fun x23_ e4_ x23_l x23_u => ?_)
    refine k_le (fun c5_ => ?_) (fun c5_ => ?_)
    · skip
      refine k_gR (r' := 0) Wh t_a0 (by decide) rfl rfl (fun x36_ e7_ tx36_ => ?_)
      refine k_kR e2_ ?_
      refine k_obj Wh tx36_ (by decide) ?_
      refine k_cWW (kX6_tellAsked Wh tx36_ tx11_) (by first | decide | exact fun _ q => q) (fun v8_ h9_ fh9_ qv8_ => ?_)
      have Wh9_ := fh9_.1
      exact k_rW Wh9_ trivial
    · skip
      refine k_gR (r' := 0) Wh t_a0 (by decide) rfl rfl (fun x710_ e11_ tx710_ => ?_)
      refine k_obj Wh tx710_ (by decide) ?_
      refine k_cP (kX1_faultAt Wh tx710_ (by first | omega | assumption | decide)) (fun x812_ qx812_ => ?_)
      refine k_if (fun c13_ => ?_) (fun c13_ => ?_)
      · skip
        first | refine k_add (by omega) (by omega) (fun x1014_ x1014_q => ?_) | refine k_let (fun x1014_ => ?_)
        exact ih _ _ _ Wh t_a0 (by first | omega | assumption | decide) (by first | omega | assumption | decide) (by omega)
      · skip
        refine k_gR (r' := 0) Wh t_a0 (by decide) rfl rfl (fun x1115_ e16_ tx1115_ => ?_)
        refine k_obj Wh t_a0 (by decide) ?_
        refine k_cP (kX11_errorInVersion Wh t_a0) (fun x1217_ qx1217_ => ?_)
        refine k_obj Wh tx1115_ (by decide) ?_
        refine k_cWW (kX6_fail Wh tx1115_) (by first | decide | exact fun _ q => q) (fun v18_ h19_ fh19_ qv18_ => ?_)
        have Wh19_ := fh19_.1
        exact k_rW Wh19_ trivial

-- fX11_tellSet
set_option maxHeartbeats 4000000 in
theorem kX11_tellSet {G : GT} {a0 : Nat} {h : sm_H} (Wh : Wf G h) (t_a0 : tG G a0 12 0) : kJ (RW [(1, 0), (5, 0), (7, 0), (20, 0), (21, 0)] G h (fun (r : Unit) (_ : sm_H) => True)) (fX11_tellSet a0 h) := by
  have L0 : (0 : Int32).toInt = 0 := rfl
  have L1 : (1 : Int32).toInt = 1 := rfl
  have L4 : (4 : Int32).toInt = 4 := rfl
  have L6 : (6 : Int32).toInt = 6 := rfl
  unfold fX11_tellSet
  refine k_gR (r' := 0) Wh t_a0 (by decide) rfl rfl (fun x11_ e2_ tx11_ => ?_)
  refine k_gN (r' := 0) Wh tx11_ (by decide) rfl rfl (fun x23_ e4_ tx23_ => ?_)
  rcases x23_ with _ | x23_s
  · rw [if_pos rfl]
    exact k_rW Wh trivial
  · rw [if_neg (by simp)]
    have tx23_s := tx23_ x23_s rfl
    refine k_kR e2_ ?_
    refine k_gI Wh tx11_ (by decide) rfl (fun x45_ e6_ x45_l x45_u => ?_)
    refine k_if (fun c7_ => ?_) (fun c7_ => ?_)
    · skip
      exact k_rW Wh trivial
    · skip
      refine k_kR e2_ ?_
      refine k_kR e4_ ?_
      refine k_gI Wh tx23_s (by decide) rfl (fun x78_ e9_ x78_l x78_u => ?_)
      refine k_if (fun c10_ => ?_) (fun c10_ => ?_)
      · skip
        refine k_obj Wh t_a0 (by decide) ?_
        refine k_cWW (kX11_countOne Wh t_a0) (by first | decide | exact fun _ q => q) (fun v11_ h12_ fh12_ qv11_ => ?_)
        have Wh12_ := fh12_.1
        refine k_gR (r' := 0) Wh12_ t_a0 (by decide) rfl rfl (fun x913_ e14_ tx913_ => ?_)
        refine k_obj Wh12_ t_a0 (by decide) ?_
        refine k_cP (kX11_errorInVersion Wh12_ t_a0) (fun x1015_ qx1015_ => ?_)
        refine k_obj Wh12_ tx913_ (by decide) ?_
        refine k_cWW (kX6_fail Wh12_ tx913_) (by first | decide | exact fun _ q => q) (fun v16_ h17_ fh17_ qv16_ => ?_)
        have Wh17_ := fh17_.1
        exact k_rW Wh17_ trivial
      · skip
        exact k_WW (kX11_tellSet_56 _ _ _ _ Wh t_a0 (by first | omega | assumption | decide) (by first | omega | assumption | decide) (by simp only [sm_fuel_eq]; omega)) (by first | decide | exact fun _ q => q) (fun _ _ _ q => q)

-- fX11_give
set_option maxHeartbeats 4000000 in
theorem kX11_give {G : GT} {a0 : Nat} {h : sm_H} (Wh : Wf G h) (t_a0 : tG G a0 12 0) : kJ (RW [(1, 0), (5, 0), (7, 0), (8, 0), (11, 0), (20, 0), (21, 0)] G h (fun (r : Int32) (_ : sm_H) => True)) (fX11_give a0 h) := by
  have L0 : (0 : Int32).toInt = 0 := rfl
  have L1 : (1 : Int32).toInt = 1 := rfl
  have L5 : (5 : Int32).toInt = 5 := rfl
  have L6 : (6 : Int32).toInt = 6 := rfl
  have L7 : (7 : Int32).toInt = 7 := rfl
  have L163 : (163 : Int32).toInt = 163 := rfl
  unfold fX11_give
  refine k_gR (r' := 0) Wh t_a0 (by decide) rfl rfl (fun x11_ e2_ tx11_ => ?_)
  refine k_obj Wh tx11_ (by decide) ?_
  refine k_cP (kX6_error Wh tx11_) (fun x23_ qx23_ => ?_)
  refine k_if (fun c4_ => ?_) (fun c4_ => ?_)
  · skip
    refine k_kR e2_ ?_
    refine k_gR (r' := 0) Wh t_a0 (by decide) rfl rfl (fun x55_ e6_ tx55_ => ?_)
    refine k_obj Wh tx11_ (by decide) ?_
    refine k_cP (kX6_sizeFor Wh tx11_ tx55_) (fun x67_ qx67_ => ?_)
    refine k_gI Wh t_a0 (by decide) rfl (fun x88_ e9_ x88_l x88_u => ?_)
    refine k_le (fun c10_ => ?_) (fun c10_ => ?_)
    · skip
      unfold fX11_give_37
      refine k_kR e2_ ?_
      refine k_obj Wh tx11_ (by decide) ?_
      refine k_cP (kX6_error Wh tx11_) (fun x211_ qx211_ => ?_)
      refine k_if (fun c12_ => ?_) (fun c12_ => ?_)
      · skip
        unfold fX11_give_52
        rw [if_pos (by decide)]
        unfold fX11_give_89
        refine k_kR e2_ ?_
        refine k_kR e6_ ?_
        refine k_obj Wh tx11_ (by decide) ?_
        refine k_cP (kX6_sizeFor Wh tx11_ tx55_) (fun x313_ qx313_ => ?_)
        refine k_kI e9_ ?_
        refine k_le (fun c14_ => ?_) (fun c14_ => ?_)
        · skip
          rw [if_pos (by decide)]
          refine k_kR e6_ ?_
          refine k_gI Wh tx55_ (by decide) rfl (fun x715_ e16_ x715_l x715_u => ?_)
          refine k_if (fun c17_ => ?_) (fun c17_ => ?_)
          · skip
            refine k_gR (r' := 0) Wh t_a0 (by decide) rfl rfl (fun x818_ e19_ tx818_ => ?_)
            refine k_obj Wh tx818_ (by decide) ?_
            refine k_cWW (kX1_apply Wh tx818_) (by first | decide | exact fun _ q => q) (fun v20_ h21_ fh21_ qv20_ => ?_)
            have Wh21_ := fh21_.1
            unfold fX11_give_138
            refine k_gR (r' := 0) Wh21_ t_a0 (by decide) rfl rfl (fun x122_ e23_ tx122_ => ?_)
            refine k_gR (r' := 0) Wh21_ t_a0 (by decide) rfl rfl (fun x224_ e25_ tx224_ => ?_)
            refine k_obj Wh21_ tx122_ (by decide) ?_
            refine k_cWW (kX6_write Wh21_ tx122_ tx224_) (by first | decide | exact fun _ q => q) (fun v26_ h27_ fh27_ qv26_ => ?_)
            have Wh27_ := fh27_.1
            have e28_ := kg_fr (fh27_.2.2.2 _ (by rw [t_a0.1, t_a0.2]; first | decide | simp)) e23_
            refine k_obj Wh27_ t_a0 (by decide) ?_
            refine k_cWW (kX11_countOne Wh27_ t_a0) (by first | decide | exact fun _ q => q) (fun v29_ h30_ fh30_ qv29_ => ?_)
            have Wh30_ := fh30_.1
            have e31_ := kg_fr (fh30_.2.2.2 _ (by rw [t_a0.1, t_a0.2]; first | decide | simp)) e28_
            rw [if_pos (by decide)]
            refine k_kR e31_ ?_
            refine k_gR (r' := 0) Wh30_ tx122_ (by decide) rfl rfl (fun x632_ e33_ tx632_ => ?_)
            refine k_obj Wh30_ tx632_ (by decide) ?_
            refine k_cP (kX0_size Wh30_ tx632_) (fun x734_ qx734_ => ?_)
            have x734_l := qx734_.1
            have x734_u := qx734_.2
            exact k_rW Wh30_ trivial
          · skip
            unfold fX11_give_138
            refine k_kR e2_ ?_
            refine k_kR e6_ ?_
            refine k_obj Wh tx11_ (by decide) ?_
            refine k_cWW (kX6_write Wh tx11_ tx55_) (by first | decide | exact fun _ q => q) (fun v35_ h36_ fh36_ qv35_ => ?_)
            have Wh36_ := fh36_.1
            have e37_ := kg_fr (fh36_.2.2.2 _ (by rw [t_a0.1, t_a0.2]; first | decide | simp)) e2_
            refine k_obj Wh36_ t_a0 (by decide) ?_
            refine k_cWW (kX11_countOne Wh36_ t_a0) (by first | decide | exact fun _ q => q) (fun v38_ h39_ fh39_ qv38_ => ?_)
            have Wh39_ := fh39_.1
            have e40_ := kg_fr (fh39_.2.2.2 _ (by rw [t_a0.1, t_a0.2]; first | decide | simp)) e37_
            rw [if_pos (by decide)]
            refine k_kR e40_ ?_
            refine k_gR (r' := 0) Wh39_ tx11_ (by decide) rfl rfl (fun x641_ e42_ tx641_ => ?_)
            refine k_obj Wh39_ tx641_ (by decide) ?_
            refine k_cP (kX0_size Wh39_ tx641_) (fun x743_ qx743_ => ?_)
            have x743_l := qx743_.1
            have x743_u := qx743_.2
            exact k_rW Wh39_ trivial
        · skip
          refine k_obj Wh t_a0 (by decide) ?_
          refine k_cWW (kX11_countOne Wh t_a0) (by first | decide | exact fun _ q => q) (fun v44_ h45_ fh45_ qv44_ => ?_)
          have Wh45_ := fh45_.1
          exact k_rW Wh45_ trivial
      · skip
        unfold fX11_give_52
        rw [if_neg (by decide)]
        refine k_kR e2_ ?_
        refine k_obj Wh tx11_ (by decide) ?_
        refine k_cP (kX6_error Wh tx11_) (fun x246_ qx246_ => ?_)
        refine k_if (fun c47_ => ?_) (fun c47_ => ?_)
        · skip
          refine k_kR e6_ ?_
          refine k_gI Wh tx55_ (by decide) rfl (fun x948_ e49_ x948_l x948_u => ?_)
          refine k_if (fun c50_ => ?_) (fun c50_ => ?_)
          · skip
            refine k_kR e2_ ?_
            refine k_kR e6_ ?_
            refine k_obj Wh tx11_ (by decide) ?_
            refine k_cWW (kX6_tellAsked Wh tx11_ tx55_) (by first | decide | exact fun _ q => q) (fun v51_ h52_ fh52_ qv51_ => ?_)
            have Wh52_ := fh52_.1
            unfold fX11_give_89
            refine k_gR (r' := 0) Wh52_ t_a0 (by decide) rfl rfl (fun x153_ e54_ tx153_ => ?_)
            refine k_gR (r' := 0) Wh52_ t_a0 (by decide) rfl rfl (fun x255_ e56_ tx255_ => ?_)
            refine k_obj Wh52_ tx153_ (by decide) ?_
            refine k_cP (kX6_sizeFor Wh52_ tx153_ tx255_) (fun x357_ qx357_ => ?_)
            refine k_gI Wh52_ t_a0 (by decide) rfl (fun x558_ e59_ x558_l x558_u => ?_)
            refine k_le (fun c60_ => ?_) (fun c60_ => ?_)
            · skip
              rw [if_neg (by decide)]
              unfold fX11_give_138
              refine k_kR e54_ ?_
              refine k_kR e56_ ?_
              refine k_obj Wh52_ tx153_ (by decide) ?_
              refine k_cWW (kX6_write Wh52_ tx153_ tx255_) (by first | decide | exact fun _ q => q) (fun v61_ h62_ fh62_ qv61_ => ?_)
              have Wh62_ := fh62_.1
              have e63_ := kg_fr (fh62_.2.2.2 _ (by rw [t_a0.1, t_a0.2]; first | decide | simp)) e54_
              refine k_obj Wh62_ t_a0 (by decide) ?_
              refine k_cWW (kX11_countOne Wh62_ t_a0) (by first | decide | exact fun _ q => q) (fun v64_ h65_ fh65_ qv64_ => ?_)
              have Wh65_ := fh65_.1
              have e66_ := kg_fr (fh65_.2.2.2 _ (by rw [t_a0.1, t_a0.2]; first | decide | simp)) e63_
              rw [if_neg (by decide)]
              refine k_obj Wh65_ t_a0 (by decide) ?_
              refine k_cWW (kX11_countOne Wh65_ t_a0) (by first | decide | exact fun _ q => q) (fun v67_ h68_ fh68_ qv67_ => ?_)
              have Wh68_ := fh68_.1
              have e69_ := kg_fr (fh68_.2.2.2 _ (by rw [t_a0.1, t_a0.2]; first | decide | simp)) e66_
              refine k_kR e69_ ?_
              refine k_gR (r' := 0) Wh68_ tx153_ (by decide) rfl rfl (fun x1270_ e71_ tx1270_ => ?_)
              refine k_obj Wh68_ tx1270_ (by decide) ?_
              refine k_cP (kX0_size Wh68_ tx1270_) (fun x1372_ qx1372_ => ?_)
              have x1372_l := qx1372_.1
              have x1372_u := qx1372_.2
              exact k_rW Wh68_ trivial
            · skip
              refine k_obj Wh52_ t_a0 (by decide) ?_
              refine k_cWW (kX11_countOne Wh52_ t_a0) (by first | decide | exact fun _ q => q) (fun v73_ h74_ fh74_ qv73_ => ?_)
              have Wh74_ := fh74_.1
              exact k_rW Wh74_ trivial
          · skip
            unfold fX11_give_89
            refine k_kR e2_ ?_
            refine k_kR e6_ ?_
            refine k_obj Wh tx11_ (by decide) ?_
            refine k_cP (kX6_sizeFor Wh tx11_ tx55_) (fun x375_ qx375_ => ?_)
            refine k_kI e9_ ?_
            refine k_le (fun c76_ => ?_) (fun c76_ => ?_)
            · skip
              rw [if_neg (by decide)]
              unfold fX11_give_138
              refine k_kR e2_ ?_
              refine k_kR e6_ ?_
              refine k_obj Wh tx11_ (by decide) ?_
              refine k_cWW (kX6_write Wh tx11_ tx55_) (by first | decide | exact fun _ q => q) (fun v77_ h78_ fh78_ qv77_ => ?_)
              have Wh78_ := fh78_.1
              have e79_ := kg_fr (fh78_.2.2.2 _ (by rw [t_a0.1, t_a0.2]; first | decide | simp)) e2_
              refine k_obj Wh78_ t_a0 (by decide) ?_
              refine k_cWW (kX11_countOne Wh78_ t_a0) (by first | decide | exact fun _ q => q) (fun v80_ h81_ fh81_ qv80_ => ?_)
              have Wh81_ := fh81_.1
              have e82_ := kg_fr (fh81_.2.2.2 _ (by rw [t_a0.1, t_a0.2]; first | decide | simp)) e79_
              rw [if_neg (by decide)]
              refine k_obj Wh81_ t_a0 (by decide) ?_
              refine k_cWW (kX11_countOne Wh81_ t_a0) (by first | decide | exact fun _ q => q) (fun v83_ h84_ fh84_ qv83_ => ?_)
              have Wh84_ := fh84_.1
              have e85_ := kg_fr (fh84_.2.2.2 _ (by rw [t_a0.1, t_a0.2]; first | decide | simp)) e82_
              refine k_kR e85_ ?_
              refine k_gR (r' := 0) Wh84_ tx11_ (by decide) rfl rfl (fun x1286_ e87_ tx1286_ => ?_)
              refine k_obj Wh84_ tx1286_ (by decide) ?_
              refine k_cP (kX0_size Wh84_ tx1286_) (fun x1388_ qx1388_ => ?_)
              have x1388_l := qx1388_.1
              have x1388_u := qx1388_.2
              exact k_rW Wh84_ trivial
            · skip
              refine k_obj Wh t_a0 (by decide) ?_
              refine k_cWW (kX11_countOne Wh t_a0) (by first | decide | exact fun _ q => q) (fun v89_ h90_ fh90_ qv89_ => ?_)
              have Wh90_ := fh90_.1
              exact k_rW Wh90_ trivial
        · skip
          refine k_kR e2_ ?_
          refine k_kR e6_ ?_
          refine k_obj Wh tx11_ (by decide) ?_
          refine k_cWW (kX6_tellAsked Wh tx11_ tx55_) (by first | decide | exact fun _ q => q) (fun v91_ h92_ fh92_ qv91_ => ?_)
          have Wh92_ := fh92_.1
          unfold fX11_give_89
          refine k_gR (r' := 0) Wh92_ t_a0 (by decide) rfl rfl (fun x193_ e94_ tx193_ => ?_)
          refine k_gR (r' := 0) Wh92_ t_a0 (by decide) rfl rfl (fun x295_ e96_ tx295_ => ?_)
          refine k_obj Wh92_ tx193_ (by decide) ?_
          refine k_cP (kX6_sizeFor Wh92_ tx193_ tx295_) (fun x397_ qx397_ => ?_)
          refine k_gI Wh92_ t_a0 (by decide) rfl (fun x598_ e99_ x598_l x598_u => ?_)
          refine k_le (fun c100_ => ?_) (fun c100_ => ?_)
          · skip
            rw [if_neg (by decide)]
            unfold fX11_give_138
            refine k_kR e94_ ?_
            refine k_kR e96_ ?_
            refine k_obj Wh92_ tx193_ (by decide) ?_
            refine k_cWW (kX6_write Wh92_ tx193_ tx295_) (by first | decide | exact fun _ q => q) (fun v101_ h102_ fh102_ qv101_ => ?_)
            have Wh102_ := fh102_.1
            have e103_ := kg_fr (fh102_.2.2.2 _ (by rw [t_a0.1, t_a0.2]; first | decide | simp)) e94_
            refine k_obj Wh102_ t_a0 (by decide) ?_
            refine k_cWW (kX11_countOne Wh102_ t_a0) (by first | decide | exact fun _ q => q) (fun v104_ h105_ fh105_ qv104_ => ?_)
            have Wh105_ := fh105_.1
            have e106_ := kg_fr (fh105_.2.2.2 _ (by rw [t_a0.1, t_a0.2]; first | decide | simp)) e103_
            rw [if_neg (by decide)]
            refine k_obj Wh105_ t_a0 (by decide) ?_
            refine k_cWW (kX11_countOne Wh105_ t_a0) (by first | decide | exact fun _ q => q) (fun v107_ h108_ fh108_ qv107_ => ?_)
            have Wh108_ := fh108_.1
            have e109_ := kg_fr (fh108_.2.2.2 _ (by rw [t_a0.1, t_a0.2]; first | decide | simp)) e106_
            refine k_kR e109_ ?_
            refine k_gR (r' := 0) Wh108_ tx193_ (by decide) rfl rfl (fun x12110_ e111_ tx12110_ => ?_)
            refine k_obj Wh108_ tx12110_ (by decide) ?_
            refine k_cP (kX0_size Wh108_ tx12110_) (fun x13112_ qx13112_ => ?_)
            have x13112_l := qx13112_.1
            have x13112_u := qx13112_.2
            exact k_rW Wh108_ trivial
          · skip
            refine k_obj Wh92_ t_a0 (by decide) ?_
            refine k_cWW (kX11_countOne Wh92_ t_a0) (by first | decide | exact fun _ q => q) (fun v113_ h114_ fh114_ qv113_ => ?_)
            have Wh114_ := fh114_.1
            exact k_rW Wh114_ trivial
    · skip
      refine k_kR e2_ ?_
      refine k_obj Wh tx11_ (by decide) ?_
      refine k_cWW (kX6_fail Wh tx11_) (by first | decide | exact fun _ q => q) (fun v115_ h116_ fh116_ qv115_ => ?_)
      have Wh116_ := fh116_.1
      unfold fX11_give_37
      refine k_gR (r' := 0) Wh116_ t_a0 (by decide) rfl rfl (fun x1117_ e118_ tx1117_ => ?_)
      refine k_obj Wh116_ tx1117_ (by decide) ?_
      refine k_cP (kX6_error Wh116_ tx1117_) (fun x2119_ qx2119_ => ?_)
      refine k_if (fun c120_ => ?_) (fun c120_ => ?_)
      · skip
        unfold fX11_give_52
        rw [if_pos (by decide)]
        unfold fX11_give_89
        refine k_kR e118_ ?_
        refine k_gR (r' := 0) Wh116_ t_a0 (by decide) rfl rfl (fun x2121_ e122_ tx2121_ => ?_)
        refine k_obj Wh116_ tx1117_ (by decide) ?_
        refine k_cP (kX6_sizeFor Wh116_ tx1117_ tx2121_) (fun x3123_ qx3123_ => ?_)
        refine k_gI Wh116_ t_a0 (by decide) rfl (fun x5124_ e125_ x5124_l x5124_u => ?_)
        refine k_le (fun c126_ => ?_) (fun c126_ => ?_)
        · skip
          rw [if_pos (by decide)]
          refine k_kR e122_ ?_
          refine k_gI Wh116_ tx2121_ (by decide) rfl (fun x7127_ e128_ x7127_l x7127_u => ?_)
          refine k_if (fun c129_ => ?_) (fun c129_ => ?_)
          · skip
            refine k_gR (r' := 0) Wh116_ t_a0 (by decide) rfl rfl (fun x8130_ e131_ tx8130_ => ?_)
            refine k_obj Wh116_ tx8130_ (by decide) ?_
            refine k_cWW (kX1_apply Wh116_ tx8130_) (by first | decide | exact fun _ q => q) (fun v132_ h133_ fh133_ qv132_ => ?_)
            have Wh133_ := fh133_.1
            unfold fX11_give_138
            refine k_gR (r' := 0) Wh133_ t_a0 (by decide) rfl rfl (fun x1134_ e135_ tx1134_ => ?_)
            refine k_gR (r' := 0) Wh133_ t_a0 (by decide) rfl rfl (fun x2136_ e137_ tx2136_ => ?_)
            refine k_obj Wh133_ tx1134_ (by decide) ?_
            refine k_cWW (kX6_write Wh133_ tx1134_ tx2136_) (by first | decide | exact fun _ q => q) (fun v138_ h139_ fh139_ qv138_ => ?_)
            have Wh139_ := fh139_.1
            have e140_ := kg_fr (fh139_.2.2.2 _ (by rw [t_a0.1, t_a0.2]; first | decide | simp)) e135_
            refine k_obj Wh139_ t_a0 (by decide) ?_
            refine k_cWW (kX11_countOne Wh139_ t_a0) (by first | decide | exact fun _ q => q) (fun v141_ h142_ fh142_ qv141_ => ?_)
            have Wh142_ := fh142_.1
            have e143_ := kg_fr (fh142_.2.2.2 _ (by rw [t_a0.1, t_a0.2]; first | decide | simp)) e140_
            rw [if_pos (by decide)]
            refine k_kR e143_ ?_
            refine k_gR (r' := 0) Wh142_ tx1134_ (by decide) rfl rfl (fun x6144_ e145_ tx6144_ => ?_)
            refine k_obj Wh142_ tx6144_ (by decide) ?_
            refine k_cP (kX0_size Wh142_ tx6144_) (fun x7146_ qx7146_ => ?_)
            have x7146_l := qx7146_.1
            have x7146_u := qx7146_.2
            exact k_rW Wh142_ trivial
          · skip
            unfold fX11_give_138
            refine k_kR e118_ ?_
            refine k_kR e122_ ?_
            refine k_obj Wh116_ tx1117_ (by decide) ?_
            refine k_cWW (kX6_write Wh116_ tx1117_ tx2121_) (by first | decide | exact fun _ q => q) (fun v147_ h148_ fh148_ qv147_ => ?_)
            have Wh148_ := fh148_.1
            have e149_ := kg_fr (fh148_.2.2.2 _ (by rw [t_a0.1, t_a0.2]; first | decide | simp)) e118_
            refine k_obj Wh148_ t_a0 (by decide) ?_
            refine k_cWW (kX11_countOne Wh148_ t_a0) (by first | decide | exact fun _ q => q) (fun v150_ h151_ fh151_ qv150_ => ?_)
            have Wh151_ := fh151_.1
            have e152_ := kg_fr (fh151_.2.2.2 _ (by rw [t_a0.1, t_a0.2]; first | decide | simp)) e149_
            rw [if_pos (by decide)]
            refine k_kR e152_ ?_
            refine k_gR (r' := 0) Wh151_ tx1117_ (by decide) rfl rfl (fun x6153_ e154_ tx6153_ => ?_)
            refine k_obj Wh151_ tx6153_ (by decide) ?_
            refine k_cP (kX0_size Wh151_ tx6153_) (fun x7155_ qx7155_ => ?_)
            have x7155_l := qx7155_.1
            have x7155_u := qx7155_.2
            exact k_rW Wh151_ trivial
        · skip
          refine k_obj Wh116_ t_a0 (by decide) ?_
          refine k_cWW (kX11_countOne Wh116_ t_a0) (by first | decide | exact fun _ q => q) (fun v156_ h157_ fh157_ qv156_ => ?_)
          have Wh157_ := fh157_.1
          exact k_rW Wh157_ trivial
      · skip
        unfold fX11_give_52
        rw [if_neg (by decide)]
        refine k_kR e118_ ?_
        refine k_obj Wh116_ tx1117_ (by decide) ?_
        refine k_cP (kX6_error Wh116_ tx1117_) (fun x2158_ qx2158_ => ?_)
        refine k_if (fun c159_ => ?_) (fun c159_ => ?_)
        · skip
          refine k_gR (r' := 0) Wh116_ t_a0 (by decide) rfl rfl (fun x8160_ e161_ tx8160_ => ?_)
          refine k_gI Wh116_ tx8160_ (by decide) rfl (fun x9162_ e163_ x9162_l x9162_u => ?_)
          refine k_if (fun c164_ => ?_) (fun c164_ => ?_)
          · skip
            refine k_kR e118_ ?_
            refine k_kR e161_ ?_
            refine k_obj Wh116_ tx1117_ (by decide) ?_
            refine k_cWW (kX6_tellAsked Wh116_ tx1117_ tx8160_) (by first | decide | exact fun _ q => q) (fun v165_ h166_ fh166_ qv165_ => ?_)
            have Wh166_ := fh166_.1
            unfold fX11_give_89
            refine k_gR (r' := 0) Wh166_ t_a0 (by decide) rfl rfl (fun x1167_ e168_ tx1167_ => ?_)
            refine k_gR (r' := 0) Wh166_ t_a0 (by decide) rfl rfl (fun x2169_ e170_ tx2169_ => ?_)
            refine k_obj Wh166_ tx1167_ (by decide) ?_
            refine k_cP (kX6_sizeFor Wh166_ tx1167_ tx2169_) (fun x3171_ qx3171_ => ?_)
            refine k_gI Wh166_ t_a0 (by decide) rfl (fun x5172_ e173_ x5172_l x5172_u => ?_)
            refine k_le (fun c174_ => ?_) (fun c174_ => ?_)
            · skip
              rw [if_neg (by decide)]
              unfold fX11_give_138
              refine k_kR e168_ ?_
              refine k_kR e170_ ?_
              refine k_obj Wh166_ tx1167_ (by decide) ?_
              refine k_cWW (kX6_write Wh166_ tx1167_ tx2169_) (by first | decide | exact fun _ q => q) (fun v175_ h176_ fh176_ qv175_ => ?_)
              have Wh176_ := fh176_.1
              have e177_ := kg_fr (fh176_.2.2.2 _ (by rw [t_a0.1, t_a0.2]; first | decide | simp)) e168_
              refine k_obj Wh176_ t_a0 (by decide) ?_
              refine k_cWW (kX11_countOne Wh176_ t_a0) (by first | decide | exact fun _ q => q) (fun v178_ h179_ fh179_ qv178_ => ?_)
              have Wh179_ := fh179_.1
              have e180_ := kg_fr (fh179_.2.2.2 _ (by rw [t_a0.1, t_a0.2]; first | decide | simp)) e177_
              rw [if_neg (by decide)]
              refine k_obj Wh179_ t_a0 (by decide) ?_
              refine k_cWW (kX11_countOne Wh179_ t_a0) (by first | decide | exact fun _ q => q) (fun v181_ h182_ fh182_ qv181_ => ?_)
              have Wh182_ := fh182_.1
              have e183_ := kg_fr (fh182_.2.2.2 _ (by rw [t_a0.1, t_a0.2]; first | decide | simp)) e180_
              refine k_kR e183_ ?_
              refine k_gR (r' := 0) Wh182_ tx1167_ (by decide) rfl rfl (fun x12184_ e185_ tx12184_ => ?_)
              refine k_obj Wh182_ tx12184_ (by decide) ?_
              refine k_cP (kX0_size Wh182_ tx12184_) (fun x13186_ qx13186_ => ?_)
              have x13186_l := qx13186_.1
              have x13186_u := qx13186_.2
              exact k_rW Wh182_ trivial
            · skip
              refine k_obj Wh166_ t_a0 (by decide) ?_
              refine k_cWW (kX11_countOne Wh166_ t_a0) (by first | decide | exact fun _ q => q) (fun v187_ h188_ fh188_ qv187_ => ?_)
              have Wh188_ := fh188_.1
              exact k_rW Wh188_ trivial
          · skip
            unfold fX11_give_89
            refine k_kR e118_ ?_
            refine k_kR e161_ ?_
            refine k_obj Wh116_ tx1117_ (by decide) ?_
            refine k_cP (kX6_sizeFor Wh116_ tx1117_ tx8160_) (fun x3189_ qx3189_ => ?_)
            refine k_gI Wh116_ t_a0 (by decide) rfl (fun x5190_ e191_ x5190_l x5190_u => ?_)
            refine k_le (fun c192_ => ?_) (fun c192_ => ?_)
            · skip
              rw [if_neg (by decide)]
              unfold fX11_give_138
              refine k_kR e118_ ?_
              refine k_kR e161_ ?_
              refine k_obj Wh116_ tx1117_ (by decide) ?_
              refine k_cWW (kX6_write Wh116_ tx1117_ tx8160_) (by first | decide | exact fun _ q => q) (fun v193_ h194_ fh194_ qv193_ => ?_)
              have Wh194_ := fh194_.1
              have e195_ := kg_fr (fh194_.2.2.2 _ (by rw [t_a0.1, t_a0.2]; first | decide | simp)) e118_
              refine k_obj Wh194_ t_a0 (by decide) ?_
              refine k_cWW (kX11_countOne Wh194_ t_a0) (by first | decide | exact fun _ q => q) (fun v196_ h197_ fh197_ qv196_ => ?_)
              have Wh197_ := fh197_.1
              have e198_ := kg_fr (fh197_.2.2.2 _ (by rw [t_a0.1, t_a0.2]; first | decide | simp)) e195_
              rw [if_neg (by decide)]
              refine k_obj Wh197_ t_a0 (by decide) ?_
              refine k_cWW (kX11_countOne Wh197_ t_a0) (by first | decide | exact fun _ q => q) (fun v199_ h200_ fh200_ qv199_ => ?_)
              have Wh200_ := fh200_.1
              have e201_ := kg_fr (fh200_.2.2.2 _ (by rw [t_a0.1, t_a0.2]; first | decide | simp)) e198_
              refine k_kR e201_ ?_
              refine k_gR (r' := 0) Wh200_ tx1117_ (by decide) rfl rfl (fun x12202_ e203_ tx12202_ => ?_)
              refine k_obj Wh200_ tx12202_ (by decide) ?_
              refine k_cP (kX0_size Wh200_ tx12202_) (fun x13204_ qx13204_ => ?_)
              have x13204_l := qx13204_.1
              have x13204_u := qx13204_.2
              exact k_rW Wh200_ trivial
            · skip
              refine k_obj Wh116_ t_a0 (by decide) ?_
              refine k_cWW (kX11_countOne Wh116_ t_a0) (by first | decide | exact fun _ q => q) (fun v205_ h206_ fh206_ qv205_ => ?_)
              have Wh206_ := fh206_.1
              exact k_rW Wh206_ trivial
        · skip
          refine k_kR e118_ ?_
          refine k_gR (r' := 0) Wh116_ t_a0 (by decide) rfl rfl (fun x5207_ e208_ tx5207_ => ?_)
          refine k_obj Wh116_ tx1117_ (by decide) ?_
          refine k_cWW (kX6_tellAsked Wh116_ tx1117_ tx5207_) (by first | decide | exact fun _ q => q) (fun v209_ h210_ fh210_ qv209_ => ?_)
          have Wh210_ := fh210_.1
          unfold fX11_give_89
          refine k_gR (r' := 0) Wh210_ t_a0 (by decide) rfl rfl (fun x1211_ e212_ tx1211_ => ?_)
          refine k_gR (r' := 0) Wh210_ t_a0 (by decide) rfl rfl (fun x2213_ e214_ tx2213_ => ?_)
          refine k_obj Wh210_ tx1211_ (by decide) ?_
          refine k_cP (kX6_sizeFor Wh210_ tx1211_ tx2213_) (fun x3215_ qx3215_ => ?_)
          refine k_gI Wh210_ t_a0 (by decide) rfl (fun x5216_ e217_ x5216_l x5216_u => ?_)
          refine k_le (fun c218_ => ?_) (fun c218_ => ?_)
          · skip
            rw [if_neg (by decide)]
            unfold fX11_give_138
            refine k_kR e212_ ?_
            refine k_kR e214_ ?_
            refine k_obj Wh210_ tx1211_ (by decide) ?_
            refine k_cWW (kX6_write Wh210_ tx1211_ tx2213_) (by first | decide | exact fun _ q => q) (fun v219_ h220_ fh220_ qv219_ => ?_)
            have Wh220_ := fh220_.1
            have e221_ := kg_fr (fh220_.2.2.2 _ (by rw [t_a0.1, t_a0.2]; first | decide | simp)) e212_
            refine k_obj Wh220_ t_a0 (by decide) ?_
            refine k_cWW (kX11_countOne Wh220_ t_a0) (by first | decide | exact fun _ q => q) (fun v222_ h223_ fh223_ qv222_ => ?_)
            have Wh223_ := fh223_.1
            have e224_ := kg_fr (fh223_.2.2.2 _ (by rw [t_a0.1, t_a0.2]; first | decide | simp)) e221_
            rw [if_neg (by decide)]
            refine k_obj Wh223_ t_a0 (by decide) ?_
            refine k_cWW (kX11_countOne Wh223_ t_a0) (by first | decide | exact fun _ q => q) (fun v225_ h226_ fh226_ qv225_ => ?_)
            have Wh226_ := fh226_.1
            have e227_ := kg_fr (fh226_.2.2.2 _ (by rw [t_a0.1, t_a0.2]; first | decide | simp)) e224_
            refine k_kR e227_ ?_
            refine k_gR (r' := 0) Wh226_ tx1211_ (by decide) rfl rfl (fun x12228_ e229_ tx12228_ => ?_)
            refine k_obj Wh226_ tx12228_ (by decide) ?_
            refine k_cP (kX0_size Wh226_ tx12228_) (fun x13230_ qx13230_ => ?_)
            have x13230_l := qx13230_.1
            have x13230_u := qx13230_.2
            exact k_rW Wh226_ trivial
          · skip
            refine k_obj Wh210_ t_a0 (by decide) ?_
            refine k_cWW (kX11_countOne Wh210_ t_a0) (by first | decide | exact fun _ q => q) (fun v231_ h232_ fh232_ qv231_ => ?_)
            have Wh232_ := fh232_.1
            exact k_rW Wh232_ trivial
  · skip
    unfold fX11_give_37
    refine k_kR e2_ ?_
    refine k_obj Wh tx11_ (by decide) ?_
    refine k_cP (kX6_error Wh tx11_) (fun x2233_ qx2233_ => ?_)
    refine k_if (fun c234_ => ?_) (fun c234_ => ?_)
    · skip
      unfold fX11_give_52
      rw [if_pos (by decide)]
      unfold fX11_give_89
      refine k_kR e2_ ?_
      refine k_gR (r' := 0) Wh t_a0 (by decide) rfl rfl (fun x2235_ e236_ tx2235_ => ?_)
      refine k_obj Wh tx11_ (by decide) ?_
      refine k_cP (kX6_sizeFor Wh tx11_ tx2235_) (fun x3237_ qx3237_ => ?_)
      refine k_gI Wh t_a0 (by decide) rfl (fun x5238_ e239_ x5238_l x5238_u => ?_)
      refine k_le (fun c240_ => ?_) (fun c240_ => ?_)
      · skip
        rw [if_pos (by decide)]
        refine k_kR e236_ ?_
        refine k_gI Wh tx2235_ (by decide) rfl (fun x7241_ e242_ x7241_l x7241_u => ?_)
        refine k_if (fun c243_ => ?_) (fun c243_ => ?_)
        · skip
          refine k_gR (r' := 0) Wh t_a0 (by decide) rfl rfl (fun x8244_ e245_ tx8244_ => ?_)
          refine k_obj Wh tx8244_ (by decide) ?_
          refine k_cWW (kX1_apply Wh tx8244_) (by first | decide | exact fun _ q => q) (fun v246_ h247_ fh247_ qv246_ => ?_)
          have Wh247_ := fh247_.1
          unfold fX11_give_138
          refine k_gR (r' := 0) Wh247_ t_a0 (by decide) rfl rfl (fun x1248_ e249_ tx1248_ => ?_)
          refine k_gR (r' := 0) Wh247_ t_a0 (by decide) rfl rfl (fun x2250_ e251_ tx2250_ => ?_)
          refine k_obj Wh247_ tx1248_ (by decide) ?_
          refine k_cWW (kX6_write Wh247_ tx1248_ tx2250_) (by first | decide | exact fun _ q => q) (fun v252_ h253_ fh253_ qv252_ => ?_)
          have Wh253_ := fh253_.1
          have e254_ := kg_fr (fh253_.2.2.2 _ (by rw [t_a0.1, t_a0.2]; first | decide | simp)) e249_
          refine k_obj Wh253_ t_a0 (by decide) ?_
          refine k_cWW (kX11_countOne Wh253_ t_a0) (by first | decide | exact fun _ q => q) (fun v255_ h256_ fh256_ qv255_ => ?_)
          have Wh256_ := fh256_.1
          have e257_ := kg_fr (fh256_.2.2.2 _ (by rw [t_a0.1, t_a0.2]; first | decide | simp)) e254_
          rw [if_pos (by decide)]
          refine k_kR e257_ ?_
          refine k_gR (r' := 0) Wh256_ tx1248_ (by decide) rfl rfl (fun x6258_ e259_ tx6258_ => ?_)
          refine k_obj Wh256_ tx6258_ (by decide) ?_
          refine k_cP (kX0_size Wh256_ tx6258_) (fun x7260_ qx7260_ => ?_)
          have x7260_l := qx7260_.1
          have x7260_u := qx7260_.2
          exact k_rW Wh256_ trivial
        · skip
          unfold fX11_give_138
          refine k_kR e2_ ?_
          refine k_kR e236_ ?_
          refine k_obj Wh tx11_ (by decide) ?_
          refine k_cWW (kX6_write Wh tx11_ tx2235_) (by first | decide | exact fun _ q => q) (fun v261_ h262_ fh262_ qv261_ => ?_)
          have Wh262_ := fh262_.1
          have e263_ := kg_fr (fh262_.2.2.2 _ (by rw [t_a0.1, t_a0.2]; first | decide | simp)) e2_
          refine k_obj Wh262_ t_a0 (by decide) ?_
          refine k_cWW (kX11_countOne Wh262_ t_a0) (by first | decide | exact fun _ q => q) (fun v264_ h265_ fh265_ qv264_ => ?_)
          have Wh265_ := fh265_.1
          have e266_ := kg_fr (fh265_.2.2.2 _ (by rw [t_a0.1, t_a0.2]; first | decide | simp)) e263_
          rw [if_pos (by decide)]
          refine k_kR e266_ ?_
          refine k_gR (r' := 0) Wh265_ tx11_ (by decide) rfl rfl (fun x6267_ e268_ tx6267_ => ?_)
          refine k_obj Wh265_ tx6267_ (by decide) ?_
          refine k_cP (kX0_size Wh265_ tx6267_) (fun x7269_ qx7269_ => ?_)
          have x7269_l := qx7269_.1
          have x7269_u := qx7269_.2
          exact k_rW Wh265_ trivial
      · skip
        refine k_obj Wh t_a0 (by decide) ?_
        refine k_cWW (kX11_countOne Wh t_a0) (by first | decide | exact fun _ q => q) (fun v270_ h271_ fh271_ qv270_ => ?_)
        have Wh271_ := fh271_.1
        exact k_rW Wh271_ trivial
    · skip
      unfold fX11_give_52
      rw [if_neg (by decide)]
      refine k_kR e2_ ?_
      refine k_obj Wh tx11_ (by decide) ?_
      refine k_cP (kX6_error Wh tx11_) (fun x2272_ qx2272_ => ?_)
      refine k_if (fun c273_ => ?_) (fun c273_ => ?_)
      · skip
        refine k_gR (r' := 0) Wh t_a0 (by decide) rfl rfl (fun x8274_ e275_ tx8274_ => ?_)
        refine k_gI Wh tx8274_ (by decide) rfl (fun x9276_ e277_ x9276_l x9276_u => ?_)
        refine k_if (fun c278_ => ?_) (fun c278_ => ?_)
        · skip
          refine k_kR e2_ ?_
          refine k_kR e275_ ?_
          refine k_obj Wh tx11_ (by decide) ?_
          refine k_cWW (kX6_tellAsked Wh tx11_ tx8274_) (by first | decide | exact fun _ q => q) (fun v279_ h280_ fh280_ qv279_ => ?_)
          have Wh280_ := fh280_.1
          unfold fX11_give_89
          refine k_gR (r' := 0) Wh280_ t_a0 (by decide) rfl rfl (fun x1281_ e282_ tx1281_ => ?_)
          refine k_gR (r' := 0) Wh280_ t_a0 (by decide) rfl rfl (fun x2283_ e284_ tx2283_ => ?_)
          refine k_obj Wh280_ tx1281_ (by decide) ?_
          refine k_cP (kX6_sizeFor Wh280_ tx1281_ tx2283_) (fun x3285_ qx3285_ => ?_)
          refine k_gI Wh280_ t_a0 (by decide) rfl (fun x5286_ e287_ x5286_l x5286_u => ?_)
          refine k_le (fun c288_ => ?_) (fun c288_ => ?_)
          · skip
            rw [if_neg (by decide)]
            unfold fX11_give_138
            refine k_kR e282_ ?_
            refine k_kR e284_ ?_
            refine k_obj Wh280_ tx1281_ (by decide) ?_
            refine k_cWW (kX6_write Wh280_ tx1281_ tx2283_) (by first | decide | exact fun _ q => q) (fun v289_ h290_ fh290_ qv289_ => ?_)
            have Wh290_ := fh290_.1
            have e291_ := kg_fr (fh290_.2.2.2 _ (by rw [t_a0.1, t_a0.2]; first | decide | simp)) e282_
            refine k_obj Wh290_ t_a0 (by decide) ?_
            refine k_cWW (kX11_countOne Wh290_ t_a0) (by first | decide | exact fun _ q => q) (fun v292_ h293_ fh293_ qv292_ => ?_)
            have Wh293_ := fh293_.1
            have e294_ := kg_fr (fh293_.2.2.2 _ (by rw [t_a0.1, t_a0.2]; first | decide | simp)) e291_
            rw [if_neg (by decide)]
            refine k_obj Wh293_ t_a0 (by decide) ?_
            refine k_cWW (kX11_countOne Wh293_ t_a0) (by first | decide | exact fun _ q => q) (fun v295_ h296_ fh296_ qv295_ => ?_)
            have Wh296_ := fh296_.1
            have e297_ := kg_fr (fh296_.2.2.2 _ (by rw [t_a0.1, t_a0.2]; first | decide | simp)) e294_
            refine k_kR e297_ ?_
            refine k_gR (r' := 0) Wh296_ tx1281_ (by decide) rfl rfl (fun x12298_ e299_ tx12298_ => ?_)
            refine k_obj Wh296_ tx12298_ (by decide) ?_
            refine k_cP (kX0_size Wh296_ tx12298_) (fun x13300_ qx13300_ => ?_)
            have x13300_l := qx13300_.1
            have x13300_u := qx13300_.2
            exact k_rW Wh296_ trivial
          · skip
            refine k_obj Wh280_ t_a0 (by decide) ?_
            refine k_cWW (kX11_countOne Wh280_ t_a0) (by first | decide | exact fun _ q => q) (fun v301_ h302_ fh302_ qv301_ => ?_)
            have Wh302_ := fh302_.1
            exact k_rW Wh302_ trivial
        · skip
          unfold fX11_give_89
          refine k_kR e2_ ?_
          refine k_kR e275_ ?_
          refine k_obj Wh tx11_ (by decide) ?_
          refine k_cP (kX6_sizeFor Wh tx11_ tx8274_) (fun x3303_ qx3303_ => ?_)
          refine k_gI Wh t_a0 (by decide) rfl (fun x5304_ e305_ x5304_l x5304_u => ?_)
          refine k_le (fun c306_ => ?_) (fun c306_ => ?_)
          · skip
            rw [if_neg (by decide)]
            unfold fX11_give_138
            refine k_kR e2_ ?_
            refine k_kR e275_ ?_
            refine k_obj Wh tx11_ (by decide) ?_
            refine k_cWW (kX6_write Wh tx11_ tx8274_) (by first | decide | exact fun _ q => q) (fun v307_ h308_ fh308_ qv307_ => ?_)
            have Wh308_ := fh308_.1
            have e309_ := kg_fr (fh308_.2.2.2 _ (by rw [t_a0.1, t_a0.2]; first | decide | simp)) e2_
            refine k_obj Wh308_ t_a0 (by decide) ?_
            refine k_cWW (kX11_countOne Wh308_ t_a0) (by first | decide | exact fun _ q => q) (fun v310_ h311_ fh311_ qv310_ => ?_)
            have Wh311_ := fh311_.1
            have e312_ := kg_fr (fh311_.2.2.2 _ (by rw [t_a0.1, t_a0.2]; first | decide | simp)) e309_
            rw [if_neg (by decide)]
            refine k_obj Wh311_ t_a0 (by decide) ?_
            refine k_cWW (kX11_countOne Wh311_ t_a0) (by first | decide | exact fun _ q => q) (fun v313_ h314_ fh314_ qv313_ => ?_)
            have Wh314_ := fh314_.1
            have e315_ := kg_fr (fh314_.2.2.2 _ (by rw [t_a0.1, t_a0.2]; first | decide | simp)) e312_
            refine k_kR e315_ ?_
            refine k_gR (r' := 0) Wh314_ tx11_ (by decide) rfl rfl (fun x12316_ e317_ tx12316_ => ?_)
            refine k_obj Wh314_ tx12316_ (by decide) ?_
            refine k_cP (kX0_size Wh314_ tx12316_) (fun x13318_ qx13318_ => ?_)
            have x13318_l := qx13318_.1
            have x13318_u := qx13318_.2
            exact k_rW Wh314_ trivial
          · skip
            refine k_obj Wh t_a0 (by decide) ?_
            refine k_cWW (kX11_countOne Wh t_a0) (by first | decide | exact fun _ q => q) (fun v319_ h320_ fh320_ qv319_ => ?_)
            have Wh320_ := fh320_.1
            exact k_rW Wh320_ trivial
      · skip
        refine k_kR e2_ ?_
        refine k_gR (r' := 0) Wh t_a0 (by decide) rfl rfl (fun x5321_ e322_ tx5321_ => ?_)
        refine k_obj Wh tx11_ (by decide) ?_
        refine k_cWW (kX6_tellAsked Wh tx11_ tx5321_) (by first | decide | exact fun _ q => q) (fun v323_ h324_ fh324_ qv323_ => ?_)
        have Wh324_ := fh324_.1
        unfold fX11_give_89
        refine k_gR (r' := 0) Wh324_ t_a0 (by decide) rfl rfl (fun x1325_ e326_ tx1325_ => ?_)
        refine k_gR (r' := 0) Wh324_ t_a0 (by decide) rfl rfl (fun x2327_ e328_ tx2327_ => ?_)
        refine k_obj Wh324_ tx1325_ (by decide) ?_
        refine k_cP (kX6_sizeFor Wh324_ tx1325_ tx2327_) (fun x3329_ qx3329_ => ?_)
        refine k_gI Wh324_ t_a0 (by decide) rfl (fun x5330_ e331_ x5330_l x5330_u => ?_)
        refine k_le (fun c332_ => ?_) (fun c332_ => ?_)
        · skip
          rw [if_neg (by decide)]
          unfold fX11_give_138
          refine k_kR e326_ ?_
          refine k_kR e328_ ?_
          refine k_obj Wh324_ tx1325_ (by decide) ?_
          refine k_cWW (kX6_write Wh324_ tx1325_ tx2327_) (by first | decide | exact fun _ q => q) (fun v333_ h334_ fh334_ qv333_ => ?_)
          have Wh334_ := fh334_.1
          have e335_ := kg_fr (fh334_.2.2.2 _ (by rw [t_a0.1, t_a0.2]; first | decide | simp)) e326_
          refine k_obj Wh334_ t_a0 (by decide) ?_
          refine k_cWW (kX11_countOne Wh334_ t_a0) (by first | decide | exact fun _ q => q) (fun v336_ h337_ fh337_ qv336_ => ?_)
          have Wh337_ := fh337_.1
          have e338_ := kg_fr (fh337_.2.2.2 _ (by rw [t_a0.1, t_a0.2]; first | decide | simp)) e335_
          rw [if_neg (by decide)]
          refine k_obj Wh337_ t_a0 (by decide) ?_
          refine k_cWW (kX11_countOne Wh337_ t_a0) (by first | decide | exact fun _ q => q) (fun v339_ h340_ fh340_ qv339_ => ?_)
          have Wh340_ := fh340_.1
          have e341_ := kg_fr (fh340_.2.2.2 _ (by rw [t_a0.1, t_a0.2]; first | decide | simp)) e338_
          refine k_kR e341_ ?_
          refine k_gR (r' := 0) Wh340_ tx1325_ (by decide) rfl rfl (fun x12342_ e343_ tx12342_ => ?_)
          refine k_obj Wh340_ tx12342_ (by decide) ?_
          refine k_cP (kX0_size Wh340_ tx12342_) (fun x13344_ qx13344_ => ?_)
          have x13344_l := qx13344_.1
          have x13344_u := qx13344_.2
          exact k_rW Wh340_ trivial
        · skip
          refine k_obj Wh324_ t_a0 (by decide) ?_
          refine k_cWW (kX11_countOne Wh324_ t_a0) (by first | decide | exact fun _ q => q) (fun v345_ h346_ fh346_ qv345_ => ?_)
          have Wh346_ := fh346_.1
          exact k_rW Wh346_ trivial
