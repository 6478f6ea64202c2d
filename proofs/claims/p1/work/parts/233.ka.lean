-- fX11_newScalar
set_option maxHeartbeats 4000000 in
theorem kX11_newScalar {G : GT} {a0 : Nat} {a1 : Int32} {a2 : Int32} {a3 : Int64} {a5 : Int64} {h : sm_H} (Wh : Wf G h) (t_a0 : tG G a0 12 0) : kJ (RA h.1 h.1 [(1, 0), (10, 0), (11, 0), (21, 0), (24, 0), (28, 0)] (h.1 + 60) (h.2.1 + 800) G h (fun (G : GT) (r : Int32) (_ : sm_H) => True)) (fX11_newScalar a0 a1 a2 a3 a5 h) := by
  have Lm4 : (-4 : Int32).toInt = -4 := rfl
  have Lm3 : (-3 : Int32).toInt = -3 := rfl
  have Lm2 : (-2 : Int32).toInt = -2 := rfl
  have L0 : (0 : Int32).toInt = 0 := rfl
  have L1 : (1 : Int32).toInt = 1 := rfl
  have L15 : (15 : Int32).toInt = 15 := rfl
  have L40 : (40 : Int32).toInt = 40 := rfl
  unfold fX11_newScalar
  refine k_cP (kX11_isObjectTag Wh ) (fun x11_ qx11_ => ?_)
  refine k_if (fun c2_ => ?_) (fun c2_ => ?_)
  · skip
    exact k_rA Wh (by omega) (by omega) trivial
  · skip
    refine k_cP (kX11_isAccess Wh ) (fun x33_ qx33_ => ?_)
    refine k_if (fun c4_ => ?_) (fun c4_ => ?_)
    · skip
      exact k_rA Wh (by omega) (by omega) trivial
    · skip
      refine k_l3 (fun c5_ => ?_) (fun c5_ => ?_)
      · skip
        exact k_rA Wh (by omega) (by omega) trivial
      · skip
        refine k_obj Wh t_a0 (by decide) ?_
        refine k_cP (kX11_isNameAtHand Wh t_a0) (fun x56_ qx56_ => ?_)
        refine k_if (fun c7_ => ?_) (fun c7_ => ?_)
        · skip
          exact k_rA Wh (by omega) (by omega) trivial
        · skip
          refine k_gR (r' := 0) Wh t_a0 (by decide) rfl rfl (fun x78_ e9_ tx78_ => ?_)
          refine k_gR (r' := 2) Wh t_a0 (by decide) rfl rfl (fun x810_ e11_ tx810_ => ?_)
          refine k_obj Wh tx78_ (by decide) ?_
          refine k_cP (kX9_isTaken Wh tx78_ tx810_) (fun x912_ qx912_ => ?_)
          refine k_if (fun c13_ => ?_) (fun c13_ => ?_)
          · skip
            refine k_kR e9_ ?_
            refine k_obj Wh tx78_ (by decide) ?_
            refine k_cP (kX9_thingCount Wh tx78_) (fun x1214_ qx1214_ => ?_)
            have x1214_l := qx1214_.1
            have x1214_u := qx1214_.2
            refine k_lt (fun c15_ => ?_) (fun c15_ => ?_)
            · skip
              refine k_kR e9_ ?_
              refine k_new (n := 7) Wh (by omega) rfl (fun h16_ sh16_ uh16_ eh16_ gh16_ Wh16_ zh16_ => ?_)
              have e17_ := kg_fr (gh16_ _ (Nat.ne_of_lt (tG_lt Wh t_a0 (by decide)))) e11_
              refine k_kR e17_ ?_
              refine k_cA (by omega) (by omega) (by first | decide | exact fun _ q => q) (kX8_init Wh16_ (by omega) zh16_ eh16_ tx810_ tN_n) (fun v19_ h18_ Gh18_ fh18_ qh18_ => ?_)
              have Wh18_ := fh18_.1
              have sh18_ := fh18_.2.1
              have th18_ := fh18_.2.2.1
              have uh18_ := fh18_.2.2.2.1
              have t20_ := tg_up fh18_ Wh16_ t_a0 (by decide) (tg_z t_a0 (by decide) zh16_)
              have t21_ := tg_up fh18_ Wh16_ tx78_ (by decide) (tg_z tx78_ (by decide) zh16_)
              have t22_ := tg_up fh18_ Wh16_ tx810_ (by decide) (tg_z tx810_ (by decide) zh16_)
              refine k_obj Wh18_ t21_ (by decide) ?_
              refine k_cWA (kX9_addThing Wh18_ t21_ qh18_) (by first | decide | exact fun _ q => q) (fun x1823_ h24_ fh24_ qx1823_ => ?_)
              have Wh24_ := fh24_.1
              have sh24_ := fh24_.2.1
              have uh24_ := fh24_.2.2.1
              exact k_rA Wh24_ (by omega) (by omega) trivial
            · skip
              exact k_rA Wh (by omega) (by omega) trivial
          · skip
            exact k_rA Wh (by omega) (by omega) trivial

-- fX11_scalar
set_option maxHeartbeats 4000000 in
theorem kX11_scalar {G : GT} {a0 : Nat} {a1 : Int32} {a2 : Int32} {a3 : Int64} {a5 : Int64} {h : sm_H} (Wh : Wf G h) (t_a0 : tG G a0 12 0) : kJ (RA h.1 h.1 [(1, 0), (1, 2), (10, 0), (11, 0), (21, 0), (24, 0), (28, 0)] (h.1 + 60) (h.2.1 + 800) G h (fun (G : GT) (r : Int32) (_ : sm_H) => True)) (fX11_scalar a0 a1 a2 a3 a5 h) := by
  have L0 : (0 : Int32).toInt = 0 := rfl
  have L1 : (1 : Int32).toInt = 1 := rfl
  unfold fX11_scalar
  refine k_obj Wh t_a0 (by decide) ?_
  have z1_ := z_top Wh
  refine k_cA (by omega) (by omega) (by first | decide | exact fun _ q => q) (kX11_newScalar Wh t_a0) (fun x13_ h2_ Gh2_ fh2_ qh2_ => ?_)
  have Wh2_ := fh2_.1
  have sh2_ := fh2_.2.1
  have th2_ := fh2_.2.2.1
  have uh2_ := fh2_.2.2.2.1
  have t4_ := tg_up fh2_ Wh t_a0 (by decide) (Nat.ne_of_lt (tG_lt Wh t_a0 (by decide)))
  refine k_gR (r' := 2) Wh2_ t4_ (by decide) rfl rfl (fun x35_ e6_ tx35_ => ?_)
  refine k_obj Wh2_ tx35_ (by decide) ?_
  refine k_cWA (kX0_clear Wh2_ tx35_) (by first | decide | exact fun _ q => q) (fun v7_ h8_ fh8_ qv7_ => ?_)
  have Wh8_ := fh8_.1
  have sh8_ := fh8_.2.1
  have uh8_ := fh8_.2.2.1
  exact k_rA Wh8_ (by omega) (by omega) trivial

-- fX11_newTable
set_option maxHeartbeats 4000000 in
theorem kX11_newTable {G : GT} {a0 : Nat} {h : sm_H} (Wh : Wf G h) (t_a0 : tG G a0 12 0) : kJ (RA h.1 h.1 [(1, 0), (10, 0), (21, 0), (25, 0)] (h.1 + 10) (h.2.1 + 100) G h (fun (G : GT) (r : Int32) (_ : sm_H) => True)) (fX11_newTable a0 h) := by
  have Lm4 : (-4 : Int32).toInt = -4 := rfl
  have Lm3 : (-3 : Int32).toInt = -3 := rfl
  have Lm2 : (-2 : Int32).toInt = -2 := rfl
  have L0 : (0 : Int32).toInt = 0 := rfl
  have L1 : (1 : Int32).toInt = 1 := rfl
  have L4 : (4 : Int32).toInt = 4 := rfl
  have L14 : (14 : Int32).toInt = 14 := rfl
  unfold fX11_newTable
  refine k_obj Wh t_a0 (by decide) ?_
  refine k_cP (kX11_isNameAtHand Wh t_a0) (fun x11_ qx11_ => ?_)
  refine k_if (fun c2_ => ?_) (fun c2_ => ?_)
  · skip
    exact k_rA Wh (by omega) (by omega) trivial
  · skip
    refine k_gR (r' := 0) Wh t_a0 (by decide) rfl rfl (fun x33_ e4_ tx33_ => ?_)
    refine k_gR (r' := 2) Wh t_a0 (by decide) rfl rfl (fun x45_ e6_ tx45_ => ?_)
    refine k_obj Wh tx33_ (by decide) ?_
    refine k_cP (kX9_isTaken Wh tx33_ tx45_) (fun x57_ qx57_ => ?_)
    refine k_if (fun c8_ => ?_) (fun c8_ => ?_)
    · skip
      refine k_kR e4_ ?_
      refine k_obj Wh tx33_ (by decide) ?_
      refine k_cP (kX9_tableCount Wh tx33_) (fun x89_ qx89_ => ?_)
      have x89_l := qx89_.1
      have x89_u := qx89_.2
      refine k_lt (fun c10_ => ?_) (fun c10_ => ?_)
      · skip
        refine k_kR e4_ ?_
        refine k_new (n := 6) Wh (by omega) rfl (fun h11_ sh11_ uh11_ eh11_ gh11_ Wh11_ zh11_ => ?_)
        have e12_ := kg_fr (gh11_ _ (Nat.ne_of_lt (tG_lt Wh t_a0 (by decide)))) e6_
        refine k_kR e12_ ?_
        refine k_cA (by omega) (by omega) (by first | decide | exact fun _ q => q) (kX7_init Wh11_ (by omega) zh11_ eh11_ tx45_) (fun v14_ h13_ Gh13_ fh13_ qh13_ => ?_)
        have Wh13_ := fh13_.1
        have sh13_ := fh13_.2.1
        have th13_ := fh13_.2.2.1
        have uh13_ := fh13_.2.2.2.1
        have t15_ := tg_up fh13_ Wh11_ t_a0 (by decide) (tg_z t_a0 (by decide) zh11_)
        have t16_ := tg_up fh13_ Wh11_ tx33_ (by decide) (tg_z tx33_ (by decide) zh11_)
        have t17_ := tg_up fh13_ Wh11_ tx45_ (by decide) (tg_z tx45_ (by decide) zh11_)
        refine k_obj Wh13_ t16_ (by decide) ?_
        refine k_cWA (kX9_addTable Wh13_ t16_ qh13_) (by first | decide | exact fun _ q => q) (fun x1418_ h19_ fh19_ qx1418_ => ?_)
        have Wh19_ := fh19_.1
        have sh19_ := fh19_.2.1
        have uh19_ := fh19_.2.2.1
        exact k_rA Wh19_ (by omega) (by omega) trivial
      · skip
        exact k_rA Wh (by omega) (by omega) trivial
    · skip
      exact k_rA Wh (by omega) (by omega) trivial

-- fX11_table
set_option maxHeartbeats 4000000 in
theorem kX11_table {G : GT} {a0 : Nat} {h : sm_H} (Wh : Wf G h) (t_a0 : tG G a0 12 0) : kJ (RA h.1 h.1 [(1, 0), (1, 2), (10, 0), (21, 0), (25, 0)] (h.1 + 10) (h.2.1 + 100) G h (fun (G : GT) (r : Int32) (_ : sm_H) => True)) (fX11_table a0 h) := by
  have L0 : (0 : Int32).toInt = 0 := rfl
  have L1 : (1 : Int32).toInt = 1 := rfl
  unfold fX11_table
  refine k_obj Wh t_a0 (by decide) ?_
  have z1_ := z_top Wh
  refine k_cA (by omega) (by omega) (by first | decide | exact fun _ q => q) (kX11_newTable Wh t_a0) (fun x13_ h2_ Gh2_ fh2_ qh2_ => ?_)
  have Wh2_ := fh2_.1
  have sh2_ := fh2_.2.1
  have th2_ := fh2_.2.2.1
  have uh2_ := fh2_.2.2.2.1
  have t4_ := tg_up fh2_ Wh t_a0 (by decide) (Nat.ne_of_lt (tG_lt Wh t_a0 (by decide)))
  refine k_gR (r' := 2) Wh2_ t4_ (by decide) rfl rfl (fun x35_ e6_ tx35_ => ?_)
  refine k_obj Wh2_ tx35_ (by decide) ?_
  refine k_cWA (kX0_clear Wh2_ tx35_) (by first | decide | exact fun _ q => q) (fun v7_ h8_ fh8_ qv7_ => ?_)
  have Wh8_ := fh8_.1
  have sh8_ := fh8_.2.1
  have uh8_ := fh8_.2.2.1
  exact k_rA Wh8_ (by omega) (by omega) trivial

-- fX11_newColumn
set_option maxHeartbeats 4000000 in
theorem kX11_newColumn {G : GT} {r_a2 : Nat} {a0 : Nat} {a1 : Nat} {a2 : Nat} {a3 : Int32} {a4 : Int32} {a5 : Int64} {a7 : Int64} {h : sm_H} (Wh : Wf G h) (t_a0 : tG G a0 12 0) (t_a1 : tG G a1 8 0) (t_a2 : tG G a2 1 r_a2) : kJ (RA h.1 h.1 [(1, 0), (8, 0), (10, 0), (11, 0), (21, 0), (24, 0), (28, 0)] (h.1 + 60) (h.2.1 + 800) G h (fun (G : GT) (r : Int32) (_ : sm_H) => True)) (fX11_newColumn a0 (some a1) (some a2) a3 a4 a5 a7 h) := by
  have L0 : (0 : Int32).toInt = 0 := rfl
  have L1 : (1 : Int32).toInt = 1 := rfl
  unfold fX11_newColumn
  refine k_new (n := 7) Wh (by omega) rfl (fun h1_ sh1_ uh1_ eh1_ gh1_ Wh1_ zh1_ => ?_)
  refine k_cA (by omega) (by omega) (by first | decide | exact fun _ q => q) (kX8_init Wh1_ (by omega) zh1_ eh1_ t_a2 (tN_s t_a1)) (fun v3_ h2_ Gh2_ fh2_ qh2_ => ?_)
  have Wh2_ := fh2_.1
  have sh2_ := fh2_.2.1
  have th2_ := fh2_.2.2.1
  have uh2_ := fh2_.2.2.2.1
  have t4_ := tg_up fh2_ Wh1_ t_a0 (by decide) (tg_z t_a0 (by decide) zh1_)
  have t5_ := tg_up fh2_ Wh1_ t_a1 (by decide) (tg_z t_a1 (by decide) zh1_)
  have t6_ := tg_up fh2_ Wh1_ t_a2 (by decide) (tg_z t_a2 (by decide) zh1_)
  refine k_obj Wh2_ t5_ (by decide) ?_
  refine k_cWA (kX7_addColumn Wh2_ t5_ qh2_) (by first | decide | exact fun _ q => q) (fun v7_ h8_ fh8_ qv7_ => ?_)
  have Wh8_ := fh8_.1
  have sh8_ := fh8_.2.1
  have uh8_ := fh8_.2.2.1
  refine k_gR (r' := 0) Wh8_ t4_ (by decide) rfl rfl (fun x49_ e10_ tx49_ => ?_)
  refine k_obj Wh8_ tx49_ (by decide) ?_
  refine k_cWA (kX9_addThing Wh8_ tx49_ qh2_) (by first | decide | exact fun _ q => q) (fun x511_ h12_ fh12_ qx511_ => ?_)
  have Wh12_ := fh12_.1
  have sh12_ := fh12_.2.1
  have uh12_ := fh12_.2.2.1
  exact k_rA Wh12_ (by omega) (by omega) trivial

-- fX11_column
set_option maxHeartbeats 4000000 in
theorem kX11_column {G : GT} {a0 : Nat} {a1 : Int32} {a2 : Int32} {a3 : Int32} {a4 : Int32} {a5 : Int64} {a7 : Int64} {h : sm_H} (Wh : Wf G h) (t_a0 : tG G a0 12 0) : kJ (RA h.1 h.1 [(1, 0), (8, 0), (10, 0), (11, 0), (21, 0), (24, 0), (28, 0)] (h.1 + 60) (h.2.1 + 800) G h (fun (G : GT) (r : Int32) (_ : sm_H) => True)) (fX11_column a0 a1 a2 a3 a4 a5 a7 h) := by
  have Lm2 : (-2 : Int32).toInt = -2 := rfl
  have Lm1 : (-1 : Int32).toInt = -1 := rfl
  have L0 : (0 : Int32).toInt = 0 := rfl
  have L1 : (1 : Int32).toInt = 1 := rfl
  unfold fX11_column
  refine k_gR (r' := 0) Wh t_a0 (by decide) rfl rfl (fun x11_ e2_ tx11_ => ?_)
  refine k_obj Wh tx11_ (by decide) ?_
  refine k_cP (kX9_tableAt Wh tx11_) (fun x23_ qx23_ => ?_)
  rcases x23_ with _ | x23_s
  · rw [if_pos rfl]
    exact k_rA Wh (by omega) (by omega) trivial
  · rw [if_neg (by simp)]
    have tx23_s := qx23_ x23_s rfl
    refine k_lt (fun c4_ => ?_) (fun c4_ => ?_)
    · skip
      exact k_rA Wh (by omega) (by omega) trivial
    · skip
      refine k_cP (kX11_isObjectTag Wh ) (fun x45_ qx45_ => ?_)
      refine k_if (fun c6_ => ?_) (fun c6_ => ?_)
      · skip
        exact k_rA Wh (by omega) (by omega) trivial
      · skip
        refine k_cP (kX11_isAccess Wh ) (fun x67_ qx67_ => ?_)
        refine k_if (fun c8_ => ?_) (fun c8_ => ?_)
        · skip
          exact k_rA Wh (by omega) (by omega) trivial
        · skip
          refine k_obj Wh t_a0 (by decide) ?_
          refine k_cP (kX11_columnRefusal Wh t_a0 tx23_s) (fun x89_ qx89_ => ?_)
          refine k_if (fun c10_ => ?_) (fun c10_ => ?_)
          · skip
            refine k_obj Wh t_a0 (by decide) ?_
            refine k_cWA (kX11_columnName Wh t_a0 tx23_s) (by first | decide | exact fun _ q => q) (fun x1011_ h12_ fh12_ qx1011_ => ?_)
            have Wh12_ := fh12_.1
            have sh12_ := fh12_.2.1
            have uh12_ := fh12_.2.2.1
            obtain ⟨x1011_s, rfl, tx1011_s⟩ := qx1011_
            refine k_obj Wh12_ t_a0 (by decide) ?_
            have z13_ := z_top Wh12_
            refine k_cA (by omega) (by omega) (by first | decide | exact fun _ q => q) (kX11_newColumn Wh12_ t_a0 tx23_s tx1011_s) (fun x1215_ h14_ Gh14_ fh14_ qh14_ => ?_)
            have Wh14_ := fh14_.1
            have sh14_ := fh14_.2.1
            have th14_ := fh14_.2.2.1
            have uh14_ := fh14_.2.2.2.1
            have t16_ := tg_up fh14_ Wh12_ t_a0 (by decide) (Nat.ne_of_lt (tG_lt Wh12_ t_a0 (by decide)))
            have t17_ := tg_up fh14_ Wh12_ tx11_ (by decide) (Nat.ne_of_lt (tG_lt Wh12_ tx11_ (by decide)))
            have t18_ := tg_up fh14_ Wh12_ tx23_s (by decide) (Nat.ne_of_lt (tG_lt Wh12_ tx23_s (by decide)))
            have t19_ := tg_up fh14_ Wh12_ tx1011_s (by decide) (Nat.ne_of_lt (tG_lt Wh12_ tx1011_s (by decide)))
            exact k_rA Wh14_ (by omega) (by omega) trivial
          · skip
            exact k_rA Wh (by omega) (by omega) trivial

-- fX11_status
set_option maxHeartbeats 4000000 in
theorem kX11_status {G : GT} {a0 : Nat} {a1 : Int32} {a2 : Int32} {h : sm_H} (Wh : Wf G h) (t_a0 : tG G a0 12 0) : kJ (RA h.1 h.1 [(1, 0), (8, 0), (10, 0), (11, 0), (21, 0), (24, 0), (28, 0)] (h.1 + 60) (h.2.1 + 800) G h (fun (G : GT) (r : Int32) (_ : sm_H) => True)) (fX11_status a0 a1 a2 h) := by
  have Lm3 : (-3 : Int32).toInt = -3 := rfl
  have Lm2 : (-2 : Int32).toInt = -2 := rfl
  have Lm1 : (-1 : Int32).toInt = -1 := rfl
  have L0 : (0 : Int32).toInt = 0 := rfl
  have L1 : (1 : Int32).toInt = 1 := rfl
  have L2 : (2 : Int32).toInt = 2 := rfl
  unfold fX11_status
  refine k_gR (r' := 0) Wh t_a0 (by decide) rfl rfl (fun x11_ e2_ tx11_ => ?_)
  refine k_obj Wh tx11_ (by decide) ?_
  refine k_cP (kX9_tableAt Wh tx11_) (fun x23_ qx23_ => ?_)
  rcases x23_ with _ | x23_s
  · rw [if_pos rfl]
    exact k_rA Wh (by omega) (by omega) trivial
  · rw [if_neg (by simp)]
    have tx23_s := qx23_ x23_s rfl
    refine k_le (fun c4_ => ?_) (fun c4_ => ?_)
    · skip
      refine k_gN (r' := 0) Wh tx23_s (by decide) rfl rfl (fun x45_ e6_ tx45_ => ?_)
      rcases x45_ with _ | x45_s
      · rw [if_pos rfl]
        refine k_obj Wh t_a0 (by decide) ?_
        refine k_cP (kX11_columnRefusal Wh t_a0 tx23_s) (fun x57_ qx57_ => ?_)
        refine k_if (fun c8_ => ?_) (fun c8_ => ?_)
        · skip
          refine k_obj Wh t_a0 (by decide) ?_
          refine k_cWA (kX11_columnName Wh t_a0 tx23_s) (by first | decide | exact fun _ q => q) (fun x79_ h10_ fh10_ qx79_ => ?_)
          have Wh10_ := fh10_.1
          have sh10_ := fh10_.2.1
          have uh10_ := fh10_.2.2.1
          have e11_ := kg_fr (fh10_.2.2.2 _ (by rw [t_a0.1, t_a0.2]; first | decide | simp)) e2_
          obtain ⟨x79_s, rfl, tx79_s⟩ := qx79_
          refine k_obj Wh10_ t_a0 (by decide) ?_
          have z12_ := z_top Wh10_
          refine k_cA (by omega) (by omega) (by first | decide | exact fun _ q => q) (kX11_newColumn Wh10_ t_a0 tx23_s tx79_s) (fun x914_ h13_ Gh13_ fh13_ qh13_ => ?_)
          have Wh13_ := fh13_.1
          have sh13_ := fh13_.2.1
          have th13_ := fh13_.2.2.1
          have uh13_ := fh13_.2.2.2.1
          have e15_ := kg_fr (fh13_.2.2.2.2.2 _ (tG_lt Wh10_ t_a0 (by decide)) (Nat.ne_of_lt (tG_lt Wh10_ t_a0 (by decide))) (by rw [t_a0.1, t_a0.2]; first | decide | simp)) e11_
          have t16_ := tg_up fh13_ Wh10_ t_a0 (by decide) (Nat.ne_of_lt (tG_lt Wh10_ t_a0 (by decide)))
          have t17_ := tg_up fh13_ Wh10_ tx11_ (by decide) (Nat.ne_of_lt (tG_lt Wh10_ tx11_ (by decide)))
          have t18_ := tg_up fh13_ Wh10_ tx23_s (by decide) (Nat.ne_of_lt (tG_lt Wh10_ tx23_s (by decide)))
          have t19_ := tg_up fh13_ Wh10_ tx79_s (by decide) (Nat.ne_of_lt (tG_lt Wh10_ tx79_s (by decide)))
          refine k_kR e15_ ?_
          refine k_obj Wh13_ t17_ (by decide) ?_
          refine k_cP (kX9_thingAt Wh13_ t17_) (fun x1220_ qx1220_ => ?_)
          refine k_A t18_ (by first | decide | simp) (w_putR Wh13_ t18_ (by decide) rfl rfl (fun q => absurd q (by decide)) qx1220_) (fun h21_ oh21_ xh21_ => ?_)
          have Wh21_ := oh21_.1
          have sh21_ := oh21_.2.1
          have uh21_ := oh21_.2.2.1
          exact k_rA Wh21_ (by omega) (by omega) trivial
        · skip
          exact k_rA Wh (by omega) (by omega) trivial
      · rw [if_neg (by simp)]
        have tx45_s := tx45_ x45_s rfl
        exact k_rA Wh (by omega) (by omega) trivial
    · skip
      exact k_rA Wh (by omega) (by omega) trivial
