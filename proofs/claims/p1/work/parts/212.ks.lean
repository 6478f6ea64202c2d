-- fX8_cellAt
set_option maxHeartbeats 4000000 in
theorem kX8_cellAt {G : GT} {a0 : Nat} {a1 : Int32} {h : sm_H} (Wh : Wf G h) (t_a0 : tG G a0 9 0) : kJ (RP G h (fun r : Option Nat => tN G r 11 0)) (fX8_cellAt a0 a1 h) := by
  have L0 : (0 : Int32).toInt = 0 := rfl
  have L1 : (1 : Int32).toInt = 1 := rfl
  unfold fX8_cellAt
  refine k_lt (fun c1_ => ?_) (fun c1_ => ?_)
  · skip
    exact k_rP tN_n
  · skip
    refine k_gR (r' := 0) Wh t_a0 (by decide) rfl rfl (fun x12_ e3_ tx12_ => ?_)
    refine k_len (B := 1200) Wh tx12_ rfl (fun x24_ x24_l x24_u => ?_)
    refine k_le (fun c5_ => ?_) (fun c5_ => ?_)
    · skip
      exact k_rP tN_n
    · skip
      refine k_kR e3_ ?_
      refine k_aR (c' := 11) Wh tx12_ (by decide) rfl (by first | omega | decide) (by first | omega | decide) (fun x46_ tx46_ => ?_)
      exact k_rP tx46_

-- fX10_becomeEmpty
set_option maxHeartbeats 4000000 in
theorem kX10_becomeEmpty {G : GT} {a0 : Nat} {a1 : Int32} {h : sm_H} (Wh : Wf G h) (t_a0 : tG G a0 11 0) : kJ (RW [(1, 0), (11, 0)] G h (fun (r : Unit) (_ : sm_H) => True)) (fX10_becomeEmpty a0 a1 h) := by
  have L0 : (0 : Int32).toInt = 0 := rfl
  have L1 : (1 : Int32).toInt = 1 := rfl
  unfold fX10_becomeEmpty
  refine k_W t_a0 (by first | decide | simp) (w_putI Wh t_a0 (by decide) rfl (i_lo _) (i_hi _)) (fun h1_ oh1_ xh1_ => ?_)
  have Wh1_ := oh1_.1
  refine k_W t_a0 (by first | decide | simp) (w_putJ Wh1_ t_a0 (by decide) rfl) (fun h2_ oh2_ xh2_ => ?_)
  have Wh2_ := oh2_.1
  refine k_gR (r' := 0) Wh2_ t_a0 (by decide) rfl rfl (fun x33_ e4_ tx33_ => ?_)
  refine k_obj Wh2_ tx33_ (by decide) ?_
  refine k_cWW (kX0_clear Wh2_ tx33_) (by first | decide | exact fun _ q => q) (fun v5_ h6_ fh6_ qv5_ => ?_)
  have Wh6_ := fh6_.1
  exact k_rW Wh6_ trivial

-- fX10_becomeFirst
set_option maxHeartbeats 4000000 in
theorem kX10_becomeFirst {G : GT} {a0 : Nat} {h : sm_H} (Wh : Wf G h) (t_a0 : tG G a0 11 0) : kJ (RW [(1, 0), (11, 0), (21, 0)] G h (fun (r : Unit) (_ : sm_H) => True)) (fX10_becomeFirst a0 h) := by
  have L0 : (0 : Int32).toInt = 0 := rfl
  have L1 : (1 : Int32).toInt = 1 := rfl
  have L6 : (6 : Int32).toInt = 6 := rfl
  unfold fX10_becomeFirst
  refine k_gI Wh t_a0 (by decide) rfl (fun x11_ e2_ x11_l x11_u => ?_)
  refine k_obj Wh t_a0 (by decide) ?_
  refine k_cWW (kX10_becomeEmpty Wh t_a0) (by first | decide | exact fun _ q => q) (fun v3_ h4_ fh4_ qv3_ => ?_)
  have Wh4_ := fh4_.1
  refine k_gI Wh4_ t_a0 (by decide) rfl (fun x35_ e6_ x35_l x35_u => ?_)
  refine k_if (fun c7_ => ?_) (fun c7_ => ?_)
  · skip
    refine k_gR (r' := 0) Wh4_ t_a0 (by decide) rfl rfl (fun x48_ e9_ tx48_ => ?_)
    refine k_obj Wh4_ tx48_ (by decide) ?_
    refine k_cWW (kX0_add Wh4_ tx48_) (by first | decide | exact fun _ q => q) (fun x510_ h11_ fh11_ qx510_ => ?_)
    have Wh11_ := fh11_.1
    have e12_ := kg_fr (fh11_.2.2.2 _ (by rw [t_a0.1, t_a0.2]; first | decide | simp)) e9_
    refine k_kR e12_ ?_
    refine k_obj Wh11_ tx48_ (by decide) ?_
    refine k_cWW (kX0_add Wh11_ tx48_) (by first | decide | exact fun _ q => q) (fun x813_ h14_ fh14_ qx813_ => ?_)
    have Wh14_ := fh14_.1
    exact k_rW Wh14_ trivial
  · skip
    exact k_rW Wh4_ trivial

-- fX7_make_41
set_option maxHeartbeats 4000000 in
theorem kX7_make_41 {G : GT} : ∀ (n : Nat) (a0 : Nat) (a2 : Int32) (a3 : Int32) (a4 : Int32) (h : sm_H), Wf G h → tG G a0 8 0 → 0 ≤ a4.toInt → a4.toInt ≤ 1200 → 1200 - a4.toInt < (n : Int) → kJ (RW [(1, 0), (11, 0), (21, 0)] G h (fun (r : Int32) (_ : sm_H) => r = 0 ∨ r = 1)) (fX7_make_41 n a0 a2 a3 a4 h) := by
  have L0 : (0 : Int32).toInt = 0 := rfl
  have L1 : (1 : Int32).toInt = 1 := rfl
  intro n
  induction n with
  | zero => intro a0 a2 a3 a4 h Wh t_a0 p0_ p1_ m_; exfalso; omega
  | succ n ih =>
    intro a0 a2 a3 a4 h Wh t_a0 p0_ p1_ m_
    unfold fX7_make_41
    refine k_gR (r' := 0) Wh t_a0 (by decide) rfl rfl (fun x11_ e2_ tx11_ => ?_)
    refine k_len (B := 40) Wh tx11_ rfl (fun x23_ x23_l x23_u => ?_)
    refine k_le (fun c4_ => ?_) (fun c4_ => ?_)
    · skip
      exact k_rW Wh (by first | assumption | decide)
    · skip
      refine k_kR e2_ ?_
      refine k_aR (c' := 9) Wh tx11_ (by decide) rfl (by first | omega | decide) (by first | omega | decide) (fun x45_ tx45_ => ?_)
      rcases x45_ with _ | x45_s
      · rw [if_pos rfl]
        unfold fX7_make_75
        rw [if_pos rfl]
        first | refine k_add (by omega) (by omega) (fun x16_ x16_q => ?_) | refine k_let (fun x16_ => ?_)
        exact ih _ _ _ _ _ Wh t_a0 (by first | omega | assumption | decide) (by first | omega | assumption | decide) (by omega)
      · rw [if_neg (by simp)]
        have tx45_s := tx45_ x45_s rfl
        refine k_obj Wh tx45_s (by decide) ?_
        refine k_cP (kX8_cellAt Wh tx45_s) (fun x57_ qx57_ => ?_)
        unfold fX7_make_75
        rcases x57_ with _ | x57_s
        · rw [if_pos rfl]
          first | refine k_add (by omega) (by omega) (fun x18_ x18_q => ?_) | refine k_let (fun x18_ => ?_)
          exact ih _ _ _ _ _ Wh t_a0 (by first | omega | assumption | decide) (by first | omega | assumption | decide) (by omega)
        · rw [if_neg (by simp)]
          have tx57_s := qx57_ x57_s rfl
          refine k_obj Wh tx57_s (by decide) ?_
          refine k_cWW (kX10_becomeFirst Wh tx57_s) (by first | decide | exact fun _ q => q) (fun v9_ h10_ fh10_ qv9_ => ?_)
          have Wh10_ := fh10_.1
          refine k_gN (r' := 0) Wh10_ t_a0 (by decide) rfl rfl (fun x311_ e12_ tx311_ => ?_)
          refine k_if (fun c13_ => ?_) (fun c13_ => ?_)
          · skip
            refine k_W tx57_s (by first | decide | simp) (w_putJ Wh10_ tx57_s (by decide) rfl) (fun h14_ oh14_ xh14_ => ?_)
            have Wh14_ := oh14_.1
            first | refine k_add (by omega) (by omega) (fun x715_ x715_q => ?_) | refine k_let (fun x715_ => ?_)
            exact ih _ _ _ _ _ Wh14_ t_a0 (by first | omega | assumption | decide) (by first | omega | assumption | decide) (by omega)
          · skip
            refine k_W tx57_s (by first | decide | simp) (w_putJ Wh10_ tx57_s (by decide) rfl) (fun h16_ oh16_ xh16_ => ?_)
            have Wh16_ := oh16_.1
            first | refine k_add (by omega) (by omega) (fun x517_ x517_q => ?_) | refine k_let (fun x517_ => ?_)
            exact ih _ _ _ _ _ Wh16_ t_a0 (by first | omega | assumption | decide) (by first | omega | assumption | decide) (by omega)

-- fX7_make
set_option maxHeartbeats 4000000 in
theorem kX7_make {G : GT} {a0 : Nat} {a1 : Int32} {a2 : Int32} {h : sm_H} (Wh : Wf G h) (t_a0 : tG G a0 8 0) : kJ (RW [(1, 0), (8, 0), (11, 0), (20, 0), (21, 0)] G h (fun (r : Int32) (_ : sm_H) => r = 0 ∨ r = 1)) (fX7_make a0 a1 a2 h) := by
  have L0 : (0 : Int32).toInt = 0 := rfl
  have L1 : (1 : Int32).toInt = 1 := rfl
  unfold fX7_make
  refine k_obj Wh t_a0 (by decide) ?_
  refine k_cP (kX7_slotHolding Wh t_a0) (fun x11_ qx11_ => ?_)
  refine k_lt (fun c2_ => ?_) (fun c2_ => ?_)
  · skip
    exact k_rW Wh (by first | assumption | decide)
  · skip
    refine k_gR (r' := 0) Wh t_a0 (by decide) rfl rfl (fun x33_ e4_ tx33_ => ?_)
    refine k_len (B := 1200) Wh tx33_ rfl (fun x45_ x45_l x45_u => ?_)
    refine k_lt (fun c6_ => ?_) (fun c6_ => ?_)
    · skip
      refine k_kR e4_ ?_
      refine k_W tx33_ (by first | decide | simp) (w_sI Wh tx33_ (by decide) (by first | omega | decide) (by first | omega | decide)) (fun h7_ oh7_ _ => ?_)
      have Wh7_ := oh7_.1
      refine k_gI Wh7_ t_a0 (by decide) rfl (fun x78_ e9_ x78_l x78_u => ?_)
      refine k_W t_a0 (by first | decide | simp) (w_putI Wh7_ t_a0 (by decide) rfl (i_lo _) (i_hi _)) (fun h10_ oh10_ xh10_ => ?_)
      have Wh10_ := oh10_.1
      exact k_WW (kX7_make_41 _ _ _ _ _ _ Wh10_ t_a0 (by first | omega | assumption | decide) (by first | omega | assumption | decide) (by simp only [sm_fuel_eq]; omega)) (by first | decide | exact fun _ q => q) (fun _ _ _ q => q)
    · skip
      exact k_rW Wh (by first | assumption | decide)

-- fX1_makeRow
set_option maxHeartbeats 4000000 in
theorem kX1_makeRow {G : GT} {a0 : Nat} {a1 : Option Nat} {h : sm_H} (Wh : Wf G h) (t_a0 : tG G a0 2 0) (t_a1 : tN G a1 5 0) : kJ (RW [(1, 0), (8, 0), (11, 0), (20, 0), (21, 0)] G h (fun (r : Unit) (_ : sm_H) => True)) (fX1_makeRow a0 a1 h) := by
  have L0 : (0 : Int32).toInt = 0 := rfl
  have L1 : (1 : Int32).toInt = 1 := rfl
  have L2 : (2 : Int32).toInt = 2 := rfl
  unfold fX1_makeRow
  rcases a1 with _ | a1s
  · rw [if_pos rfl]
    unfold fX1_makeRow_19
    rw [if_pos rfl]
    exact k_rW Wh trivial
  · rw [if_neg (by simp)]
    have ta1s := t_a1 a1s rfl
    refine k_gR (r' := 0) Wh t_a0 (by decide) rfl rfl (fun x11_ e2_ tx11_ => ?_)
    refine k_gR (r' := 0) Wh ta1s (by decide) rfl rfl (fun x23_ e4_ tx23_ => ?_)
    refine k_obj Wh tx11_ (by decide) ?_
    refine k_cP (kX9_thingFor Wh tx11_ tx23_) (fun x35_ qx35_ => ?_)
    unfold fX1_makeRow_19
    rcases x35_ with _ | x35_s
    · rw [if_pos rfl]
      exact k_rW Wh trivial
    · rw [if_neg (by simp)]
      have tx35_s := qx35_ x35_s rfl
      refine k_obj Wh tx35_s (by decide) ?_
      refine k_cP (kX8_isStatus Wh tx35_s) (fun x16_ qx16_ => ?_)
      refine k_if (fun c7_ => ?_) (fun c7_ => ?_)
      · skip
        exact k_rW Wh trivial
      · skip
        obtain ⟨b8_, e9_⟩ := qx16_.2 c7_
        have tb8_ := kw_tab Wh tx35_s e9_
        refine k_kR e9_ ?_
        refine k_cP (kX1_indexMade Wh (tN_s ta1s) tb8_) (fun x410_ qx410_ => ?_)
        refine k_l1 (fun c11_ => ?_) (fun c11_ => ?_)
        · skip
          exact k_rW Wh trivial
        · skip
          refine k_kR e9_ ?_
          refine k_gR (r' := 0) Wh ta1s (by decide) rfl rfl (fun x712_ e13_ tx712_ => ?_)
          refine k_gJ Wh tx712_ (by decide) rfl (fun x814_ e15_ => ?_)
          refine k_if (fun c16_ => ?_) (fun c16_ => ?_)
          · skip
            refine k_obj Wh tb8_ (by decide) ?_
            refine k_cWW (kX7_make Wh tb8_) (by first | decide | exact fun _ q => q) (fun x1217_ h18_ fh18_ qx1217_ => ?_)
            have Wh18_ := fh18_.1
            exact k_rW Wh18_ trivial
          · skip
            refine k_obj Wh tb8_ (by decide) ?_
            refine k_cWW (kX7_make Wh tb8_) (by first | decide | exact fun _ q => q) (fun x919_ h20_ fh20_ qx919_ => ?_)
            have Wh20_ := fh20_.1
            exact k_rW Wh20_ trivial

-- fX8_cellFor
set_option maxHeartbeats 4000000 in
theorem kX8_cellFor {G : GT} {a0 : Nat} {a1 : Int64} {h : sm_H} (Wh : Wf G h) (t_a0 : tG G a0 9 0) : kJ (RP G h (fun r : Option Nat => tN G r 11 0)) (fX8_cellFor a0 a1 h) := by
  have L0 : (0 : Int32).toInt = 0 := rfl
  have L1 : (1 : Int32).toInt = 1 := rfl
  unfold fX8_cellFor
  refine k_gN (r' := 0) Wh t_a0 (by decide) rfl rfl (fun x11_ e2_ tx11_ => ?_)
  rcases x11_ with _ | x11_s
  · rw [if_pos rfl]
    refine k_if (fun c3_ => ?_) (fun c3_ => ?_)
    · skip
      refine k_obj Wh t_a0 (by decide) ?_
      refine k_cP (kX8_cellAt Wh t_a0) (fun x94_ qx94_ => ?_)
      exact k_rP qx94_
    · skip
      exact k_rP tN_n
  · rw [if_neg (by simp)]
    have tx11_s := tx11_ x11_s rfl
    refine k_kR e2_ ?_
    refine k_obj Wh tx11_s (by decide) ?_
    refine k_cP (kX7_slotOf Wh tx11_s) (fun x35_ qx35_ => ?_)
    refine k_obj Wh t_a0 (by decide) ?_
    refine k_cP (kX8_cellAt Wh t_a0) (fun x56_ qx56_ => ?_)
    exact k_rP qx56_

-- fX10_copy
set_option maxHeartbeats 4000000 in
theorem kX10_copy {G : GT} {a0 : Nat} {a1 : Nat} {h : sm_H} (Wh : Wf G h) (t_a0 : tG G a0 11 0) (t_a1 : tG G a1 11 0) : kJ (RW [(1, 0), (11, 0), (21, 0)] G h (fun (r : Unit) (_ : sm_H) => True)) (fX10_copy a0 (some a1) h) := by
  have L0 : (0 : Int32).toInt = 0 := rfl
  have L1 : (1 : Int32).toInt = 1 := rfl
  unfold fX10_copy
  refine k_gI Wh t_a1 (by decide) rfl (fun x11_ e2_ x11_l x11_u => ?_)
  refine k_W t_a0 (by first | decide | simp) (w_putI Wh t_a0 (by decide) rfl (i_lo _) (i_hi _)) (fun h3_ oh3_ xh3_ => ?_)
  have Wh3_ := oh3_.1
  refine k_gJ Wh3_ t_a1 (by decide) rfl (fun x34_ e5_ => ?_)
  refine k_W t_a0 (by first | decide | simp) (w_putJ Wh3_ t_a0 (by decide) rfl) (fun h6_ oh6_ xh6_ => ?_)
  have Wh6_ := oh6_.1
  refine k_gR (r' := 0) Wh6_ t_a0 (by decide) rfl rfl (fun x57_ e8_ tx57_ => ?_)
  refine k_gR (r' := 0) Wh6_ t_a1 (by decide) rfl rfl (fun x69_ e10_ tx69_ => ?_)
  refine k_obj Wh6_ tx57_ (by decide) ?_
  refine k_cWW (kX0_copy Wh6_ tx57_ tx69_) (by first | decide | exact fun _ q => q) (fun v11_ h12_ fh12_ qv11_ => ?_)
  have Wh12_ := fh12_.1
  exact k_rW Wh12_ trivial

-- fX7_takeAway
set_option maxHeartbeats 4000000 in
theorem kX7_takeAway {G : GT} {a0 : Nat} {a1 : Int64} {h : sm_H} (Wh : Wf G h) (t_a0 : tG G a0 8 0) : kJ (RW [(8, 0), (20, 0)] G h (fun (r : Unit) (_ : sm_H) => True)) (fX7_takeAway a0 a1 h) := by
  have L0 : (0 : Int32).toInt = 0 := rfl
  have L1 : (1 : Int32).toInt = 1 := rfl
  unfold fX7_takeAway
  refine k_obj Wh t_a0 (by decide) ?_
  refine k_cP (kX7_slotOf Wh t_a0) (fun x11_ qx11_ => ?_)
  refine k_lt (fun c2_ => ?_) (fun c2_ => ?_)
  · skip
    exact k_rW Wh trivial
  · skip
    refine k_gR (r' := 0) Wh t_a0 (by decide) rfl rfl (fun x33_ e4_ tx33_ => ?_)
    refine k_len (B := 1200) Wh tx33_ rfl (fun x45_ x45_l x45_u => ?_)
    refine k_le (fun c6_ => ?_) (fun c6_ => ?_)
    · skip
      exact k_rW Wh trivial
    · skip
      refine k_kR e4_ ?_
      refine k_W tx33_ (by first | decide | simp) (w_sI Wh tx33_ (by decide) (by first | omega | decide) (by first | omega | decide)) (fun h7_ oh7_ _ => ?_)
      have Wh7_ := oh7_.1
      refine k_gI Wh7_ t_a0 (by decide) rfl (fun x78_ e9_ x78_l x78_u => ?_)
      refine k_W t_a0 (by first | decide | simp) (w_putI Wh7_ t_a0 (by decide) rfl (i_lo _) (i_hi _)) (fun h10_ oh10_ xh10_ => ?_)
      have Wh10_ := oh10_.1
      exact k_rW Wh10_ trivial

-- fX1_setOne
set_option maxHeartbeats 4000000 in
theorem kX1_setOne {G : GT} {a0 : Nat} {a1 : Option Nat} {h : sm_H} (Wh : Wf G h) (t_a0 : tG G a0 2 0) (t_a1 : tN G a1 5 0) : kJ (RW [(1, 0), (8, 0), (11, 0), (20, 0), (21, 0)] G h (fun (r : Unit) (_ : sm_H) => True)) (fX1_setOne a0 a1 h) := by
  have L0 : (0 : Int32).toInt = 0 := rfl
  have L1 : (1 : Int32).toInt = 1 := rfl
  unfold fX1_setOne
  rcases a1 with _ | a1s
  · rw [if_pos rfl]
    unfold fX1_setOne_19
    rw [if_pos rfl]
    unfold fX1_setOne_46
    rw [if_pos rfl]
    exact k_rW Wh trivial
  · rw [if_neg (by simp)]
    have ta1s := t_a1 a1s rfl
    refine k_gR (r' := 0) Wh t_a0 (by decide) rfl rfl (fun x11_ e2_ tx11_ => ?_)
    refine k_gR (r' := 0) Wh ta1s (by decide) rfl rfl (fun x23_ e4_ tx23_ => ?_)
    refine k_obj Wh tx11_ (by decide) ?_
    refine k_cP (kX9_thingFor Wh tx11_ tx23_) (fun x35_ qx35_ => ?_)
    unfold fX1_setOne_19
    rcases x35_ with _ | x35_s
    · rw [if_pos rfl]
      unfold fX1_setOne_46
      rw [if_pos rfl]
      exact k_rW Wh trivial
    · rw [if_neg (by simp)]
      have tx35_s := qx35_ x35_s rfl
      refine k_kR e4_ ?_
      refine k_gR (r' := 0) Wh tx35_s (by decide) rfl rfl (fun x26_ e7_ tx26_ => ?_)
      refine k_obj Wh tx26_ (by decide) ?_
      refine k_cP (kX0_size Wh tx26_) (fun x38_ qx38_ => ?_)
      have x38_l := qx38_.1
      have x38_u := qx38_.2
      refine k_obj Wh tx23_ (by decide) ?_
      refine k_cP (kX0_at Wh tx23_) (fun x59_ qx59_ => ?_)
      refine k_obj Wh tx35_s (by decide) ?_
      refine k_cP (kX8_cellFor Wh tx35_s) (fun x710_ qx710_ => ?_)
      unfold fX1_setOne_46
      rcases x710_ with _ | x710_s
      · rw [if_pos rfl]
        exact k_rW Wh trivial
      · rw [if_neg (by simp)]
        have tx710_s := qx710_ x710_s rfl
        refine k_obj Wh tx35_s (by decide) ?_
        refine k_cP (kX8_isStatus Wh tx35_s) (fun x111_ qx111_ => ?_)
        refine k_if (fun c12_ => ?_) (fun c12_ => ?_)
        · skip
          refine k_gR (r' := 0) Wh ta1s (by decide) rfl rfl (fun x313_ e14_ tx313_ => ?_)
          refine k_obj Wh tx710_s (by decide) ?_
          refine k_cWW (kX10_copy Wh tx710_s tx313_) (by first | decide | exact fun _ q => q) (fun v15_ h16_ fh16_ qv15_ => ?_)
          have Wh16_ := fh16_.1
          exact k_rW Wh16_ trivial
        · skip
          obtain ⟨b17_, e18_⟩ := qx111_.2 c12_
          have tb17_ := kw_tab Wh tx35_s e18_
          refine k_gR (r' := 0) Wh ta1s (by decide) rfl rfl (fun x619_ e20_ tx619_ => ?_)
          refine k_gJ Wh tx619_ (by decide) rfl (fun x721_ e22_ => ?_)
          refine k_if (fun c23_ => ?_) (fun c23_ => ?_)
          · skip
            refine k_kR e20_ ?_
            refine k_obj Wh tx710_s (by decide) ?_
            refine k_cWW (kX10_copy Wh tx710_s tx619_) (by first | decide | exact fun _ q => q) (fun v24_ h25_ fh25_ qv24_ => ?_)
            have Wh25_ := fh25_.1
            exact k_rW Wh25_ trivial
          · skip
            refine k_kR e20_ ?_
            refine k_kJ e22_ ?_
            refine k_if (fun c26_ => ?_) (fun c26_ => ?_)
            · skip
              refine k_kR e20_ ?_
              refine k_obj Wh tx710_s (by decide) ?_
              refine k_cWW (kX10_copy Wh tx710_s tx619_) (by first | decide | exact fun _ q => q) (fun v27_ h28_ fh28_ qv27_ => ?_)
              have Wh28_ := fh28_.1
              exact k_rW Wh28_ trivial
            · skip
              refine k_kR e20_ ?_
              refine k_kJ e22_ ?_
              refine k_if (fun c29_ => ?_) (fun c29_ => ?_)
              · skip
                refine k_kR e18_ ?_
                refine k_kR e4_ ?_
                refine k_kR e7_ ?_
                refine k_obj Wh tx26_ (by decide) ?_
                refine k_cP (kX0_size Wh tx26_) (fun x1830_ qx1830_ => ?_)
                have x1830_l := qx1830_.1
                have x1830_u := qx1830_.2
                refine k_obj Wh tx23_ (by decide) ?_
                refine k_cP (kX0_at Wh tx23_) (fun x2031_ qx2031_ => ?_)
                refine k_obj Wh tb17_ (by decide) ?_
                refine k_cWW (kX7_takeAway Wh tb17_) (by first | decide | exact fun _ q => q) (fun v32_ h33_ fh33_ qv32_ => ?_)
                have Wh33_ := fh33_.1
                exact k_rW Wh33_ trivial
              · skip
                exact k_rW Wh trivial

-- fX1_apply_33
set_option maxHeartbeats 4000000 in
theorem kX1_apply_33 {G : GT} : ∀ (n : Nat) (a0 : Nat) (a1 : Int32) (h : sm_H), Wf G h → tG G a0 2 0 → 0 ≤ a1.toInt → a1.toInt ≤ 1200 → 1200 - a1.toInt < (n : Int) → kJ (RW [(1, 0), (8, 0), (11, 0), (20, 0), (21, 0)] G h (fun (r : Unit) (_ : sm_H) => True)) (fX1_apply_33 n a0 a1 h) := by
  have L0 : (0 : Int32).toInt = 0 := rfl
  have L1 : (1 : Int32).toInt = 1 := rfl
  intro n
  induction n with
  | zero => intro a0 a1 h Wh t_a0 p0_ p1_ m_; exfalso; omega
  | succ n ih =>
    intro a0 a1 h Wh t_a0 p0_ p1_ m_
    unfold fX1_apply_33
    refine k_gR (r' := 0) Wh t_a0 (by decide) rfl rfl (fun x11_ e2_ tx11_ => ?_)
    refine k_gI Wh tx11_ (by decide) rfl (fun x23_ e4_ x23_l x23_u => ?_)
    refine k_le (fun c5_ => ?_) (fun c5_ => ?_)
    · skip
      exact k_rW Wh trivial
    · skip
      refine k_kR e2_ ?_
      refine k_obj Wh tx11_ (by decide) ?_
      refine k_cP (kX3_pairAt Wh tx11_) (fun x46_ qx46_ => ?_)
      refine k_obj Wh t_a0 (by decide) ?_
      refine k_cWW (kX1_setOne Wh t_a0 qx46_) (by first | decide | exact fun _ q => q) (fun v7_ h8_ fh8_ qv7_ => ?_)
      have Wh8_ := fh8_.1
      first | refine k_add (by omega) (by omega) (fun x79_ x79_q => ?_) | refine k_let (fun x79_ => ?_)
      exact ih _ _ _ Wh8_ t_a0 (by first | omega | assumption | decide) (by first | omega | assumption | decide) (by omega)

-- fX1_apply_2
set_option maxHeartbeats 4000000 in
theorem kX1_apply_2 {G : GT} : ∀ (n : Nat) (a0 : Nat) (a1 : Int32) (h : sm_H), Wf G h → tG G a0 2 0 → 0 ≤ a1.toInt → a1.toInt ≤ 1200 → 1200 - a1.toInt < (n : Int) → kJ (RW [(1, 0), (8, 0), (11, 0), (20, 0), (21, 0)] G h (fun (r : Unit) (_ : sm_H) => True)) (fX1_apply_2 n a0 a1 h) := by
  have L0 : (0 : Int32).toInt = 0 := rfl
  have L1 : (1 : Int32).toInt = 1 := rfl
  intro n
  induction n with
  | zero => intro a0 a1 h Wh t_a0 p0_ p1_ m_; exfalso; omega
  | succ n ih =>
    intro a0 a1 h Wh t_a0 p0_ p1_ m_
    unfold fX1_apply_2
    refine k_gR (r' := 0) Wh t_a0 (by decide) rfl rfl (fun x11_ e2_ tx11_ => ?_)
    refine k_gI Wh tx11_ (by decide) rfl (fun x23_ e4_ x23_l x23_u => ?_)
    refine k_le (fun c5_ => ?_) (fun c5_ => ?_)
    · skip
      exact k_WW (kX1_apply_33 _ _ _ _ Wh t_a0 (by first | omega | assumption | decide) (by first | omega | assumption | decide) (by simp only [sm_fuel_eq]; omega)) (by first | decide | exact fun _ q => q) (fun _ _ _ q => q)
    · skip
      refine k_kR e2_ ?_
      refine k_obj Wh tx11_ (by decide) ?_
      refine k_cP (kX3_pairAt Wh tx11_) (fun x46_ qx46_ => ?_)
      refine k_obj Wh t_a0 (by decide) ?_
      refine k_cWW (kX1_makeRow Wh t_a0 qx46_) (by first | decide | exact fun _ q => q) (fun v7_ h8_ fh8_ qv7_ => ?_)
      have Wh8_ := fh8_.1
      first | refine k_add (by omega) (by omega) (fun x79_ x79_q => ?_) | refine k_let (fun x79_ => ?_)
      exact ih _ _ _ Wh8_ t_a0 (by first | omega | assumption | decide) (by first | omega | assumption | decide) (by omega)

-- fX1_apply
set_option maxHeartbeats 4000000 in
theorem kX1_apply {G : GT} {a0 : Nat} {h : sm_H} (Wh : Wf G h) (t_a0 : tG G a0 2 0) : kJ (RW [(1, 0), (8, 0), (11, 0), (20, 0), (21, 0)] G h (fun (r : Unit) (_ : sm_H) => True)) (fX1_apply a0 h) := by
  have L0 : (0 : Int32).toInt = 0 := rfl
  have L1 : (1 : Int32).toInt = 1 := rfl
  unfold fX1_apply
  exact k_WW (kX1_apply_2 _ _ _ _ Wh t_a0 (by first | omega | assumption | decide) (by first | omega | assumption | decide) (by simp only [sm_fuel_eq]; omega)) (by first | decide | exact fun _ q => q) (fun _ _ _ q => q)

-- fX2_viewCount
set_option maxHeartbeats 4000000 in
theorem kX2_viewCount {G : GT} {a0 : Nat} {h : sm_H} (Wh : Wf G h) (t_a0 : tG G a0 3 0) : kJ (RP G h (fun r : Int32 => True)) (fX2_viewCount a0 h) := by
  have L0 : (0 : Int32).toInt = 0 := rfl
  have L1 : (1 : Int32).toInt = 1 := rfl
  unfold fX2_viewCount
  refine k_gI Wh t_a0 (by decide) rfl (fun x11_ e2_ x11_l x11_u => ?_)
  exact k_rP trivial

-- fX5_readLength_91
set_option maxHeartbeats 4000000 in
theorem kX5_readLength_91 {G : GT} : ∀ (n : Nat) (a0 : Nat) (a4 : Int64) (a6 : Int32) (h : sm_H), Wf G h → tG G a0 6 0 → 0 ≤ a6.toInt → (∃ x : Int32, sm_get h (some a0) 5 2 = some (.int x) ∧ x.toInt + a6.toInt ≤ 1200) → a6.toInt < (n : Int) → kJ (RW [(6, 0)] G h (fun (_ : Int64) (_ : sm_H) => True)) (fX5_readLength_91 n a0 a4 a6 h) := by
  have L0 : (0 : Int32).toInt = 0 := rfl
  have L1 : (1 : Int32).toInt = 1 := rfl
  have Lm1 : (-1 : Int32).toInt = -1 := rfl
  intro n
  induction n with
  | zero => intro a0 a4 a6 h Wh t p0 p1 m; exfalso; omega
  | succ n ih =>
    intro a0 a4 a6 h Wh t p0 p1 m
    obtain ⟨xa, ea, ma⟩ := p1
    have ra := kw_at Wh t ea
    unfold fX5_readLength_91
    refine k_le (fun c => ?_) (fun c => ?_)
    · exact k_rW Wh trivial
    · refine k_gR Wh t (by decide) rfl rfl (fun x1 e1 t1 => ?_)
      refine k_kI ea ?_
      refine k_obj Wh t1 (by decide) ?_
      refine k_cP (kX0_at Wh t1) (fun x3 _ => ?_)
      refine k_let (fun x5 => ?_)
      refine k_kI ea ?_
      refine k_W t (by decide) (w_putI Wh t (by decide) rfl (by rw [i_add1 (by omega)]; omega) (by rw [i_add1 (by omega)]; omega)) (fun h7 o7 x7 => ?_)
      refine k_add (by omega) (by omega) (fun x8 q8 => ?_)
      exact ih _ _ _ _ o7.1 t (by omega) ⟨_, by rw [x7 2, if_pos rfl], by rw [i_add1 (by omega)]; omega⟩ (by omega)
