-- fX11_newCommunity
set_option maxHeartbeats 4000000 in
theorem kX11_newCommunity {G : GT} {a0 : Nat} {a1 : Int32} {h : sm_H} (Wh : Wf G h) (t_a0 : tG G a0 12 0) (p0_ : a1 = 0 ∨ a1 = 1) : kJ (RA h.1 h.1 [(1, 3), (12, 0), (21, 3), (26, 0)] (h.1 + 10) (h.2.1 + 100) G h (fun (G : GT) (r : Int32) (_ : sm_H) => True)) (fX11_newCommunity a0 a1 h) := by
  have Lm4 : (-4 : Int32).toInt = -4 := rfl
  have Lm3 : (-3 : Int32).toInt = -3 := rfl
  have Lm2 : (-2 : Int32).toInt = -2 := rfl
  have L0 : (0 : Int32).toInt = 0 := rfl
  have L1 : (1 : Int32).toInt = 1 := rfl
  have L40 : (40 : Int32).toInt = 40 := rfl
  unfold fX11_newCommunity
  refine k_gR (r' := 1) Wh t_a0 (by decide) rfl rfl (fun x11_ e2_ tx11_ => ?_)
  refine k_obj Wh tx11_ (by decide) ?_
  refine k_cP (kX0_size Wh tx11_) (fun x23_ qx23_ => ?_)
  have x23_l := qx23_.1
  have x23_u := qx23_.2
  refine k_le (fun c4_ => ?_) (fun c4_ => ?_)
  · skip
    refine k_kR e2_ ?_
    refine k_obj Wh t_a0 (by decide) ?_
    refine k_cP (kX11_communityNamed Wh t_a0 tx11_) (fun x55_ qx55_ => ?_)
    rcases x55_ with _ | x55_s
    · rw [if_pos rfl]
      refine k_gI Wh t_a0 (by decide) rfl (fun x76_ e7_ x76_l x76_u => ?_)
      refine k_lt (fun c8_ => ?_) (fun c8_ => ?_)
      · skip
        exact k_rA Wh (by omega) (by omega) trivial
      · skip
        refine k_kI e7_ ?_
        refine k_gR (r' := 0) Wh t_a0 (by decide) rfl rfl (fun x99_ e10_ tx99_ => ?_)
        refine k_len (B := 1200) Wh tx99_ rfl (fun x1011_ x1011_l x1011_u => ?_)
        refine k_lt (fun c12_ => ?_) (fun c12_ => ?_)
        · skip
          refine k_kR e10_ ?_
          refine k_kI e7_ ?_
          refine k_new (n := 5) Wh (by omega) rfl (fun h13_ sh13_ uh13_ eh13_ gh13_ Wh13_ zh13_ => ?_)
          have e14_ := kg_fr (gh13_ _ (Nat.ne_of_lt (tG_lt Wh t_a0 (by decide)))) e2_
          have e15_ := kg_fr (gh13_ _ (Nat.ne_of_lt (tG_lt Wh t_a0 (by decide)))) e7_
          refine k_kR e14_ ?_
          refine k_cA (by omega) (by omega) (by first | decide | exact fun _ q => q) (kX2_init Wh13_ (by omega) zh13_ eh13_ tx11_ (by first | omega | assumption | decide)) (fun v17_ h16_ Gh16_ fh16_ qh16_ => ?_)
          have Wh16_ := fh16_.1
          have sh16_ := fh16_.2.1
          have th16_ := fh16_.2.2.1
          have uh16_ := fh16_.2.2.2.1
          have e18_ := kg_fr (fh16_.2.2.2.2.2 _ (tG_lt Wh13_ t_a0 (by decide)) (tg_z t_a0 (by decide) zh13_) (by rw [t_a0.1, t_a0.2]; first | decide | simp)) e15_
          have t19_ := tg_up fh16_ Wh13_ t_a0 (by decide) (tg_z t_a0 (by decide) zh13_)
          have t20_ := tg_up fh16_ Wh13_ tx11_ (by decide) (tg_z tx11_ (by decide) zh13_)
          have t21_ := tg_up fh16_ Wh13_ tx99_ (by decide) (tg_z tx99_ (by decide) zh13_)
          have := tg_upl fh16_ Wh13_ tx99_ (by decide) (tg_z tx99_ (by decide) zh13_)
          refine k_A t21_ (by first | decide | simp) (w_sR Wh16_ t21_ (by decide) (by decide) rfl (by first | omega | decide) (by first | omega | decide) (tN_s qh16_)) (fun h22_ oh22_ _ => ?_)
          have Wh22_ := oh22_.1
          have sh22_ := oh22_.2.1
          have uh22_ := oh22_.2.2.1
          have e23_ := kg_fr (oh22_.2.2.2 _ (tg_ne t19_ t21_ (by simp))) e18_
          refine k_kI e23_ ?_
          refine k_A t19_ (by first | decide | simp) (w_putI Wh22_ t19_ (by decide) rfl (i_lo _) (i_hi _)) (fun h24_ oh24_ xh24_ => ?_)
          have Wh24_ := oh24_.1
          have sh24_ := oh24_.2.1
          have uh24_ := oh24_.2.2.1
          have e25_ := (xh24_ 14).trans (if_pos rfl)
          refine k_kI e25_ ?_
          exact k_rA Wh24_ (by omega) (by omega) trivial
        · skip
          exact k_rA Wh (by omega) (by omega) trivial
    · rw [if_neg (by simp)]
      have tx55_s := qx55_ x55_s rfl
      exact k_rA Wh (by omega) (by omega) trivial
  · skip
    exact k_rA Wh (by omega) (by omega) trivial

-- fX11_community
set_option maxHeartbeats 4000000 in
theorem kX11_community {G : GT} {a0 : Nat} {a1 : Int32} {h : sm_H} (Wh : Wf G h) (t_a0 : tG G a0 12 0) (p0_ : a1 = 0 ∨ a1 = 1) : kJ (RA h.1 h.1 [(1, 1), (1, 3), (12, 0), (21, 3), (26, 0)] (h.1 + 10) (h.2.1 + 100) G h (fun (G : GT) (r : Int32) (_ : sm_H) => True)) (fX11_community a0 a1 h) := by
  have L0 : (0 : Int32).toInt = 0 := rfl
  have L1 : (1 : Int32).toInt = 1 := rfl
  unfold fX11_community
  refine k_obj Wh t_a0 (by decide) ?_
  have z1_ := z_top Wh
  refine k_cA (by omega) (by omega) (by first | decide | exact fun _ q => q) (kX11_newCommunity Wh t_a0 (by first | omega | assumption | decide)) (fun x13_ h2_ Gh2_ fh2_ qh2_ => ?_)
  have Wh2_ := fh2_.1
  have sh2_ := fh2_.2.1
  have th2_ := fh2_.2.2.1
  have uh2_ := fh2_.2.2.2.1
  have t4_ := tg_up fh2_ Wh t_a0 (by decide) (Nat.ne_of_lt (tG_lt Wh t_a0 (by decide)))
  refine k_gR (r' := 1) Wh2_ t4_ (by decide) rfl rfl (fun x35_ e6_ tx35_ => ?_)
  refine k_obj Wh2_ tx35_ (by decide) ?_
  refine k_cWA (kX0_clear Wh2_ tx35_) (by first | decide | exact fun _ q => q) (fun v7_ h8_ fh8_ qv7_ => ?_)
  have Wh8_ := fh8_.1
  have sh8_ := fh8_.2.1
  have uh8_ := fh8_.2.2.1
  exact k_rA Wh8_ (by omega) (by omega) trivial

-- fX11_newView
set_option maxHeartbeats 4000000 in
theorem kX11_newView {G : GT} {a0 : Nat} {a1 : Int32} {a2 : Int32} {h : sm_H} (Wh : Wf G h) (t_a0 : tG G a0 12 0) (p0_ : a2 = 0 ∨ a2 = 1) : kJ (RA h.1 h.1 [(1, 0), (3, 0), (21, 0), (22, 0), (29, 0)] (h.1 + 2) (h.2.1 + 18) G h (fun (G : GT) (r : Int32) (_ : sm_H) => True)) (fX11_newView a0 a1 a2 h) := by
  have Lm4 : (-4 : Int32).toInt = -4 := rfl
  have Lm2 : (-2 : Int32).toInt = -2 := rfl
  have Lm1 : (-1 : Int32).toInt = -1 := rfl
  have L0 : (0 : Int32).toInt = 0 := rfl
  have L1 : (1 : Int32).toInt = 1 := rfl
  have L16 : (16 : Int32).toInt = 16 := rfl
  unfold fX11_newView
  refine k_lt (fun c1_ => ?_) (fun c1_ => ?_)
  · skip
    unfold fX11_newView_18
    rw [if_pos (by decide)]
    unfold fX11_newView_33
    rw [if_pos rfl]
    exact k_rA Wh (by omega) (by omega) trivial
  · skip
    refine k_gR (r' := 0) Wh t_a0 (by decide) rfl rfl (fun x12_ e3_ tx12_ => ?_)
    refine k_len (B := 1200) Wh tx12_ rfl (fun x24_ x24_l x24_u => ?_)
    refine k_le (fun c5_ => ?_) (fun c5_ => ?_)
    · skip
      unfold fX11_newView_18
      rw [if_pos (by decide)]
      unfold fX11_newView_33
      rw [if_pos rfl]
      exact k_rA Wh (by omega) (by omega) trivial
    · skip
      unfold fX11_newView_18
      rw [if_neg (by decide)]
      refine k_kR e3_ ?_
      refine k_aR (c' := 3) Wh tx12_ (by decide) rfl (by first | omega | decide) (by first | omega | decide) (fun x26_ tx26_ => ?_)
      unfold fX11_newView_33
      rcases x26_ with _ | x26_s
      · rw [if_pos rfl]
        exact k_rA Wh (by omega) (by omega) trivial
      · rw [if_neg (by simp)]
        have tx26_s := tx26_ x26_s rfl
        refine k_obj Wh t_a0 (by decide) ?_
        refine k_cP (kX11_isNameAtHand Wh t_a0) (fun x17_ qx17_ => ?_)
        refine k_if (fun c8_ => ?_) (fun c8_ => ?_)
        · skip
          exact k_rA Wh (by omega) (by omega) trivial
        · skip
          refine k_gR (r' := 2) Wh t_a0 (by decide) rfl rfl (fun x39_ e10_ tx39_ => ?_)
          refine k_obj Wh tx26_s (by decide) ?_
          have z11_ := z_top Wh
          refine k_cA (by omega) (by omega) (by first | decide | exact fun _ q => q) (kX2_addView Wh tx26_s tx39_ (by first | omega | assumption | decide)) (fun x413_ h12_ Gh12_ fh12_ qh12_ => ?_)
          have Wh12_ := fh12_.1
          have sh12_ := fh12_.2.1
          have th12_ := fh12_.2.2.1
          have uh12_ := fh12_.2.2.2.1
          have t14_ := tg_up fh12_ Wh t_a0 (by decide) (Nat.ne_of_lt (tG_lt Wh t_a0 (by decide)))
          have t15_ := tg_up fh12_ Wh tx12_ (by decide) (Nat.ne_of_lt (tG_lt Wh tx12_ (by decide)))
          have := tg_upl fh12_ Wh tx12_ (by decide) (Nat.ne_of_lt (tG_lt Wh tx12_ (by decide)))
          have t16_ := tg_up fh12_ Wh tx26_s (by decide) (Nat.ne_of_lt (tG_lt Wh tx26_s (by decide)))
          have t17_ := tg_up fh12_ Wh tx39_ (by decide) (Nat.ne_of_lt (tG_lt Wh tx39_ (by decide)))
          refine k_if (fun c18_ => ?_) (fun c18_ => ?_)
          · skip
            exact k_rA Wh12_ (by omega) (by omega) trivial
          · skip
            refine k_obj Wh12_ t16_ (by decide) ?_
            refine k_cP (kX2_viewCount Wh12_ t16_) (fun x619_ qx619_ => ?_)
            exact k_rA Wh12_ (by omega) (by omega) trivial

-- fX11_view
set_option maxHeartbeats 4000000 in
theorem kX11_view {G : GT} {a0 : Nat} {a1 : Int32} {a2 : Int32} {h : sm_H} (Wh : Wf G h) (t_a0 : tG G a0 12 0) (p0_ : a2 = 0 ∨ a2 = 1) : kJ (RA h.1 h.1 [(1, 0), (1, 2), (3, 0), (21, 0), (22, 0), (29, 0)] (h.1 + 2) (h.2.1 + 18) G h (fun (G : GT) (r : Int32) (_ : sm_H) => True)) (fX11_view a0 a1 a2 h) := by
  have L0 : (0 : Int32).toInt = 0 := rfl
  have L1 : (1 : Int32).toInt = 1 := rfl
  unfold fX11_view
  refine k_obj Wh t_a0 (by decide) ?_
  have z1_ := z_top Wh
  refine k_cA (by omega) (by omega) (by first | decide | exact fun _ q => q) (kX11_newView Wh t_a0 (by first | omega | assumption | decide)) (fun x13_ h2_ Gh2_ fh2_ qh2_ => ?_)
  have Wh2_ := fh2_.1
  have sh2_ := fh2_.2.1
  have th2_ := fh2_.2.2.1
  have uh2_ := fh2_.2.2.2.1
  have t4_ := tg_up fh2_ Wh t_a0 (by decide) (Nat.ne_of_lt (tG_lt Wh t_a0 (by decide)))
  refine k_gR (r' := 2) Wh2_ t4_ (by decide) rfl rfl (fun x35_ e6_ tx35_ => ?_)
  refine k_obj Wh2_ tx35_ (by decide) ?_
  refine k_cWA (kX0_clear Wh2_ tx35_) (by first | decide | exact fun _ q => q) (fun v7_ h8_ fh8_ qv7_ => ?_)
  have Wh8_ := fh8_.1
  have sh8_ := fh8_.2.1
  have uh8_ := fh8_.2.2.1
  exact k_rA Wh8_ (by omega) (by omega) trivial
