-- fX11_question
set_option maxHeartbeats 4000000 in
theorem kX11_question {G : GT} {a0 : Nat} {h : sm_H} (Wh : Wf G h) (t_a0 : tG G a0 12 0) : kJ (RW [(1, 0), (1, 1), (4, 0), (5, 0), (6, 0), (7, 0), (8, 0), (11, 0), (20, 0), (21, 0)] G h (fun (r : Int32) (_ : sm_H) => True)) (fX11_question a0 h) := by
  have L0 : (0 : Int32).toInt = 0 := rfl
  have L1 : (1 : Int32).toInt = 1 := rfl
  have L160 : (160 : Int32).toInt = 160 := rfl
  have L161 : (161 : Int32).toInt = 161 := rfl
  have L165 : (165 : Int32).toInt = 165 := rfl
  unfold fX11_question
  refine k_gR (r' := 0) Wh t_a0 (by decide) rfl rfl (fun x11_ e2_ tx11_ => ?_)
  refine k_obj Wh tx11_ (by decide) ?_
  refine k_cWW (kX6_clear Wh tx11_) (by first | decide | exact fun _ q => q) (fun v3_ h4_ fh4_ qv3_ => ?_)
  have Wh4_ := fh4_.1
  refine k_obj Wh4_ t_a0 (by decide) ?_
  refine k_cWW (kX11_takeMessage Wh4_ t_a0) (by first | decide | exact fun _ q => q) (fun x35_ h6_ fh6_ qx35_ => ?_)
  have Wh6_ := fh6_.1
  refine k_gR (r' := 1) Wh6_ t_a0 (by decide) rfl rfl (fun x57_ e8_ tx57_ => ?_)
  refine k_obj Wh6_ tx57_ (by decide) ?_
  refine k_cWW (kX0_clear Wh6_ tx57_) (by first | decide | exact fun _ q => q) (fun v9_ h10_ fh10_ qv9_ => ?_)
  have Wh10_ := fh10_.1
  refine k_if (fun c11_ => ?_) (fun c11_ => ?_)
  · skip
    refine k_gR (r' := 0) Wh10_ t_a0 (by decide) rfl rfl (fun x712_ e13_ tx712_ => ?_)
    refine k_gI Wh10_ tx712_ (by decide) rfl (fun x814_ e15_ x814_l x814_u => ?_)
    refine k_if (fun c16_ => ?_) (fun c16_ => ?_)
    · skip
      refine k_obj Wh10_ t_a0 (by decide) ?_
      refine k_cWW (kX11_tellValues Wh10_ t_a0) (by first | decide | exact fun _ q => q) (fun v17_ h18_ fh18_ qv17_ => ?_)
      have Wh18_ := fh18_.1
      refine k_obj Wh18_ t_a0 (by decide) ?_
      refine k_cWW (kX11_give Wh18_ t_a0) (by first | decide | exact fun _ q => q) (fun x1019_ h20_ fh20_ qx1019_ => ?_)
      have Wh20_ := fh20_.1
      exact k_rW Wh20_ trivial
    · skip
      refine k_if (fun c21_ => ?_) (fun c21_ => ?_)
      · skip
        refine k_obj Wh10_ t_a0 (by decide) ?_
        refine k_cWW (kX11_tellNexts Wh10_ t_a0) (by first | decide | exact fun _ q => q) (fun v22_ h23_ fh23_ qv22_ => ?_)
        have Wh23_ := fh23_.1
        refine k_obj Wh23_ t_a0 (by decide) ?_
        refine k_cWW (kX11_give Wh23_ t_a0) (by first | decide | exact fun _ q => q) (fun x1624_ h25_ fh25_ qx1624_ => ?_)
        have Wh25_ := fh25_.1
        exact k_rW Wh25_ trivial
      · skip
        refine k_if (fun c26_ => ?_) (fun c26_ => ?_)
        · skip
          refine k_obj Wh10_ t_a0 (by decide) ?_
          refine k_cWW (kX11_tellMany Wh10_ t_a0) (by first | decide | exact fun _ q => q) (fun v27_ h28_ fh28_ qv27_ => ?_)
          have Wh28_ := fh28_.1
          refine k_obj Wh28_ t_a0 (by decide) ?_
          refine k_cWW (kX11_give Wh28_ t_a0) (by first | decide | exact fun _ q => q) (fun x2229_ h30_ fh30_ qx2229_ => ?_)
          have Wh30_ := fh30_.1
          exact k_rW Wh30_ trivial
        · skip
          refine k_obj Wh10_ t_a0 (by decide) ?_
          refine k_cWW (kX11_tellSet Wh10_ t_a0) (by first | decide | exact fun _ q => q) (fun v31_ h32_ fh32_ qv31_ => ?_)
          have Wh32_ := fh32_.1
          refine k_obj Wh32_ t_a0 (by decide) ?_
          refine k_cWW (kX11_give Wh32_ t_a0) (by first | decide | exact fun _ q => q) (fun x2833_ h34_ fh34_ qx2833_ => ?_)
          have Wh34_ := fh34_.1
          exact k_rW Wh34_ trivial
  · skip
    refine k_obj Wh10_ t_a0 (by decide) ?_
    refine k_cWW (kX11_countOne Wh10_ t_a0) (by first | decide | exact fun _ q => q) (fun v35_ h36_ fh36_ qv35_ => ?_)
    have Wh36_ := fh36_.1
    exact k_rW Wh36_ trivial

-- fX11_answer
set_option maxHeartbeats 4000000 in
theorem kX11_answer {G : GT} {a0 : Nat} {a1 : Int32} {h : sm_H} (Wh : Wf G h) (t_a0 : tG G a0 12 0) : kJ (RP G h (fun r : Int32 => True)) (fX11_answer a0 a1 h) := by
  have L0 : (0 : Int32).toInt = 0 := rfl
  have L1 : (1 : Int32).toInt = 1 := rfl
  unfold fX11_answer
  refine k_gR (r' := 0) Wh t_a0 (by decide) rfl rfl (fun x11_ e2_ tx11_ => ?_)
  refine k_gR (r' := 0) Wh tx11_ (by decide) rfl rfl (fun x23_ e4_ tx23_ => ?_)
  refine k_obj Wh tx23_ (by decide) ?_
  refine k_cP (kX0_at Wh tx23_) (fun x35_ qx35_ => ?_)
  exact k_rP trivial

-- fX11_count
set_option maxHeartbeats 4000000 in
theorem kX11_count {G : GT} {a0 : Nat} {a1 : Int32} {h : sm_H} (Wh : Wf G h) (t_a0 : tG G a0 12 0) : kJ (RP G h (fun r : Int32 => True)) (fX11_count a0 a1 h) := by
  have Lm2 : (-2 : Int32).toInt = -2 := rfl
  have L0 : (0 : Int32).toInt = 0 := rfl
  have L1 : (1 : Int32).toInt = 1 := rfl
  have L8 : (8 : Int32).toInt = 8 := rfl
  have L9 : (9 : Int32).toInt = 9 := rfl
  unfold fX11_count
  refine k_if (fun c1_ => ?_) (fun c1_ => ?_)
  · skip
    refine k_gR (r' := 0) Wh t_a0 (by decide) rfl rfl (fun x12_ e3_ tx12_ => ?_)
    refine k_obj Wh tx12_ (by decide) ?_
    refine k_cP (kX9_thingCount Wh tx12_) (fun x24_ qx24_ => ?_)
    have x24_l := qx24_.1
    have x24_u := qx24_.2
    exact k_rP trivial
  · skip
    refine k_if (fun c5_ => ?_) (fun c5_ => ?_)
    · skip
      refine k_gI Wh t_a0 (by decide) rfl (fun x66_ e7_ x66_l x66_u => ?_)
      exact k_rP trivial
    · skip
      refine k_if (fun c8_ => ?_) (fun c8_ => ?_)
      · skip
        refine k_gR (r' := 0) Wh t_a0 (by decide) rfl rfl (fun x89_ e10_ tx89_ => ?_)
        refine k_obj Wh tx89_ (by decide) ?_
        refine k_cP (kX9_tableCount Wh tx89_) (fun x911_ qx911_ => ?_)
        have x911_l := qx911_.1
        have x911_u := qx911_.2
        exact k_rP trivial
      · skip
        refine k_le (fun c12_ => ?_) (fun c12_ => ?_)
        · skip
          exact k_rP trivial
        · skip
          refine k_gR (r' := 0) Wh t_a0 (by decide) rfl rfl (fun x1313_ e14_ tx1313_ => ?_)
          refine k_len (B := 1200) Wh tx1313_ rfl (fun x1415_ x1415_l x1415_u => ?_)
          refine k_le (fun c16_ => ?_) (fun c16_ => ?_)
          · skip
            exact k_rP trivial
          · skip
            refine k_kR e14_ ?_
            refine k_aI Wh tx1313_ (by decide) (by first | omega | decide) (by first | omega | decide) (fun x1617_ => ?_)
            exact k_rP trivial

-- fX11_rows
set_option maxHeartbeats 4000000 in
theorem kX11_rows {G : GT} {a0 : Nat} {a1 : Int32} {h : sm_H} (Wh : Wf G h) (t_a0 : tG G a0 12 0) : kJ (RP G h (fun r : Int32 => True)) (fX11_rows a0 a1 h) := by
  have Lm1 : (-1 : Int32).toInt = -1 := rfl
  have L0 : (0 : Int32).toInt = 0 := rfl
  have L1 : (1 : Int32).toInt = 1 := rfl
  unfold fX11_rows
  refine k_gR (r' := 0) Wh t_a0 (by decide) rfl rfl (fun x11_ e2_ tx11_ => ?_)
  refine k_obj Wh tx11_ (by decide) ?_
  refine k_cP (kX9_tableAt Wh tx11_) (fun x23_ qx23_ => ?_)
  rcases x23_ with _ | x23_s
  · rw [if_pos rfl]
    exact k_rP trivial
  · rw [if_neg (by simp)]
    have tx23_s := qx23_ x23_s rfl
    refine k_obj Wh tx23_s (by decide) ?_
    refine k_cP (kX7_rowCount Wh tx23_s) (fun x44_ qx44_ => ?_)
    exact k_rP trivial

-- fX11_told
set_option maxHeartbeats 4000000 in
theorem kX11_told {G : GT} {a0 : Nat} {a1 : Int32} {a2 : Int32} {h : sm_H} (Wh : Wf G h) (t_a0 : tG G a0 12 0) : kJ (RP G h (fun r : Int64 => True)) (fX11_told a0 a1 a2 h) := by
  have L0 : (0 : Int32).toInt = 0 := rfl
  have L1 : (1 : Int32).toInt = 1 := rfl
  unfold fX11_told
  refine k_gR (r' := 0) Wh t_a0 (by decide) rfl rfl (fun x11_ e2_ tx11_ => ?_)
  refine k_obj Wh tx11_ (by decide) ?_
  refine k_cP (kX9_thingAt Wh tx11_) (fun x23_ qx23_ => ?_)
  rcases x23_ with _ | x23_s
  · rw [if_pos rfl]
    unfold fX11_told_23
    rw [if_pos rfl]
    exact k_rP trivial
  · rw [if_neg (by simp)]
    have tx23_s := qx23_ x23_s rfl
    refine k_obj Wh tx23_s (by decide) ?_
    refine k_cP (kX8_cellFor Wh tx23_s) (fun x44_ qx44_ => ?_)
    unfold fX11_told_23
    rcases x44_ with _ | x44_s
    · rw [if_pos rfl]
      exact k_rP trivial
    · rw [if_neg (by simp)]
      have tx44_s := qx44_ x44_s rfl
      refine k_obj Wh tx44_s (by decide) ?_
      refine k_cP (kX10_isOfParts Wh tx44_s) (fun x15_ qx15_ => ?_)
      refine k_if (fun c6_ => ?_) (fun c6_ => ?_)
      · skip
        refine k_obj Wh tx23_s (by decide) ?_
        refine k_cP (kX8_tellsClock Wh tx23_s) (fun x37_ qx37_ => ?_)
        refine k_if (fun c8_ => ?_) (fun c8_ => ?_)
        · skip
          refine k_gJ Wh tx44_s (by decide) rfl (fun x59_ e10_ => ?_)
          exact k_rP trivial
        · skip
          refine k_gR (r' := 0) Wh t_a0 (by decide) rfl rfl (fun x611_ e12_ tx611_ => ?_)
          refine k_gJ Wh tx611_ (by decide) rfl (fun x713_ e14_ => ?_)
          exact k_rP trivial
      · skip
        refine k_gR (r' := 0) Wh tx44_s (by decide) rfl rfl (fun x915_ e16_ tx915_ => ?_)
        refine k_obj Wh tx915_ (by decide) ?_
        refine k_cP (kX0_size Wh tx915_) (fun x1017_ qx1017_ => ?_)
        have x1017_l := qx1017_.1
        have x1017_u := qx1017_.2
        exact k_rP trivial

-- fX11_part
set_option maxHeartbeats 4000000 in
theorem kX11_part {G : GT} {a0 : Nat} {a1 : Int32} {a2 : Int32} {a3 : Int32} {h : sm_H} (Wh : Wf G h) (t_a0 : tG G a0 12 0) : kJ (RP G h (fun r : Int64 => True)) (fX11_part a0 a1 a2 a3 h) := by
  have L0 : (0 : Int32).toInt = 0 := rfl
  have L1 : (1 : Int32).toInt = 1 := rfl
  unfold fX11_part
  refine k_gR (r' := 0) Wh t_a0 (by decide) rfl rfl (fun x11_ e2_ tx11_ => ?_)
  refine k_obj Wh tx11_ (by decide) ?_
  refine k_cP (kX9_thingAt Wh tx11_) (fun x23_ qx23_ => ?_)
  rcases x23_ with _ | x23_s
  · rw [if_pos rfl]
    unfold fX11_part_26
    rw [if_pos rfl]
    exact k_rP trivial
  · rw [if_neg (by simp)]
    have tx23_s := qx23_ x23_s rfl
    refine k_obj Wh tx23_s (by decide) ?_
    refine k_cP (kX8_cellFor Wh tx23_s) (fun x44_ qx44_ => ?_)
    unfold fX11_part_26
    rcases x44_ with _ | x44_s
    · rw [if_pos rfl]
      exact k_rP trivial
    · rw [if_neg (by simp)]
      have tx44_s := qx44_ x44_s rfl
      refine k_gR (r' := 0) Wh tx44_s (by decide) rfl rfl (fun x15_ e6_ tx15_ => ?_)
      refine k_obj Wh tx15_ (by decide) ?_
      refine k_cP (kX0_at Wh tx15_) (fun x27_ qx27_ => ?_)
      exact k_rP trivial
