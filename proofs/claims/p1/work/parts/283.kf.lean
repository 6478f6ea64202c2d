-- fX11_newCommunity
set_option maxHeartbeats 4000000 in
theorem kf15X11_newCommunity {G : GT} {fv : Int32} {a0 : Nat} {a1 : Int32} {h : sm_H} (Wh : Wf G h) (t_a0 : tG G a0 12 0) (p0_ : a1 = 0 ∨ a1 = 1) (e_fv : sm_get h (some a0) 11 15 = some (.int fv)) : kJ (RA h.1 h.1 [(1, 3), (12, 0), (21, 3), (26, 0)] (h.1 + 10) (h.2.1 + 100) G h (fun (G : GT) (_ : Int32) (h' : sm_H) => sm_get h' (some a0) 11 15 = some (.int fv))) (fX11_newCommunity a0 a1 h) := by
  have Lm4 : (-4 : Int32).toInt = -4 := rfl
  have Lm3 : (-3 : Int32).toInt = -3 := rfl
  have Lm2 : (-2 : Int32).toInt = -2 := rfl
  have L0 : (0 : Int32).toInt = 0 := rfl
  have L1 : (1 : Int32).toInt = 1 := rfl
  have L40 : (40 : Int32).toInt = 40 := rfl
  unfold fX11_newCommunity
  refine k_gR (r' := 1) Wh t_a0 (by decide) rfl rfl (fun x11_ e2_ tx11_ => ?_)
  refine k_obj Wh tx11_ (by decide) ?_
  refine k_cP (kX0_size Wh tx11_) (fun x23_ qx23_ => ?_)
  have x23_l := qx23_.1
  have x23_u := qx23_.2
  refine k_le (fun c4_ => ?_) (fun c4_ => ?_)
  · skip
    refine k_kR e2_ ?_
    refine k_obj Wh t_a0 (by decide) ?_
    refine k_cP (kX11_communityNamed Wh t_a0 tx11_) (fun x55_ qx55_ => ?_)
    rcases x55_ with _ | x55_s
    · rw [if_pos rfl]
      refine k_gI Wh t_a0 (by decide) rfl (fun x76_ e7_ x76_l x76_u => ?_)
      refine k_lt (fun c8_ => ?_) (fun c8_ => ?_)
      · skip
        exact k_rA Wh (by omega) (by omega) e_fv
      · skip
        refine k_kI e7_ ?_
        refine k_gR (r' := 0) Wh t_a0 (by decide) rfl rfl (fun x99_ e10_ tx99_ => ?_)
        refine k_len (B := 1200) Wh tx99_ rfl (fun x1011_ x1011_l x1011_u => ?_)
        refine k_lt (fun c12_ => ?_) (fun c12_ => ?_)
        · skip
          refine k_kR e10_ ?_
          refine k_kI e7_ ?_
          refine k_new (n := 5) Wh (by omega) rfl (fun h13_ sh13_ uh13_ eh13_ gh13_ Wh13_ zh13_ => ?_)
          have e14_ := kg_fr (gh13_ _ (Nat.ne_of_lt (tG_lt Wh t_a0 (by decide)))) e_fv
          have e15_ := kg_fr (gh13_ _ (Nat.ne_of_lt (tG_lt Wh t_a0 (by decide)))) e2_
          have e16_ := kg_fr (gh13_ _ (Nat.ne_of_lt (tG_lt Wh t_a0 (by decide)))) e7_
          refine k_kR e15_ ?_
          refine k_cA (by omega) (by omega) (by first | decide | exact fun _ q => q) (kX2_init Wh13_ (by omega) zh13_ eh13_ tx11_ (by first | omega | assumption | decide)) (fun v18_ h17_ Gh17_ fh17_ qh17_ => ?_)
          have Wh17_ := fh17_.1
          have sh17_ := fh17_.2.1
          have th17_ := fh17_.2.2.1
          have uh17_ := fh17_.2.2.2.1
          have e19_ := kg_fr (fh17_.2.2.2.2.2 _ (tG_lt Wh13_ t_a0 (by decide)) (tg_z t_a0 (by decide) zh13_) (by rw [t_a0.1, t_a0.2]; first | decide | simp)) e14_
          have e20_ := kg_fr (fh17_.2.2.2.2.2 _ (tG_lt Wh13_ t_a0 (by decide)) (tg_z t_a0 (by decide) zh13_) (by rw [t_a0.1, t_a0.2]; first | decide | simp)) e16_
          have t21_ := tg_up fh17_ Wh13_ t_a0 (by decide) (tg_z t_a0 (by decide) zh13_)
          have t22_ := tg_up fh17_ Wh13_ tx11_ (by decide) (tg_z tx11_ (by decide) zh13_)
          have t23_ := tg_up fh17_ Wh13_ tx99_ (by decide) (tg_z tx99_ (by decide) zh13_)
          have := tg_upl fh17_ Wh13_ tx99_ (by decide) (tg_z tx99_ (by decide) zh13_)
          refine k_A t23_ (by first | decide | simp) (w_sR Wh17_ t23_ (by decide) (by decide) rfl (by first | omega | decide) (by first | omega | decide) (tN_s qh17_)) (fun h24_ oh24_ _ => ?_)
          have Wh24_ := oh24_.1
          have sh24_ := oh24_.2.1
          have uh24_ := oh24_.2.2.1
          have e25_ := kg_fr (oh24_.2.2.2 _ (tg_ne t21_ t23_ (by simp))) e19_
          have e26_ := kg_fr (oh24_.2.2.2 _ (tg_ne t21_ t23_ (by simp))) e20_
          refine k_kI e26_ ?_
          refine k_A t21_ (by first | decide | simp) (w_putI Wh24_ t21_ (by decide) rfl (i_lo _) (i_hi _)) (fun h27_ oh27_ xh27_ => ?_)
          have Wh27_ := oh27_.1
          have sh27_ := oh27_.2.1
          have uh27_ := oh27_.2.2.1
          have e28_ := ((xh27_ 15).trans (if_neg (by decide))).trans e25_
          have e29_ := (xh27_ 14).trans (if_pos rfl)
          refine k_kI e29_ ?_
          exact k_rA Wh27_ (by omega) (by omega) e28_
        · skip
          exact k_rA Wh (by omega) (by omega) e_fv
    · rw [if_neg (by simp)]
      have tx55_s := qx55_ x55_s rfl
      exact k_rA Wh (by omega) (by omega) e_fv
  · skip
    exact k_rA Wh (by omega) (by omega) e_fv

-- fX11_newCommunity
set_option maxHeartbeats 4000000 in
theorem kf16X11_newCommunity {G : GT} {fv : Int64} {a0 : Nat} {a1 : Int32} {h : sm_H} (Wh : Wf G h) (t_a0 : tG G a0 12 0) (p0_ : a1 = 0 ∨ a1 = 1) (e_fv : sm_get h (some a0) 11 16 = some (.long fv)) : kJ (RA h.1 h.1 [(1, 3), (12, 0), (21, 3), (26, 0)] (h.1 + 10) (h.2.1 + 100) G h (fun (G : GT) (_ : Int32) (h' : sm_H) => sm_get h' (some a0) 11 16 = some (.long fv))) (fX11_newCommunity a0 a1 h) := by
  have Lm4 : (-4 : Int32).toInt = -4 := rfl
  have Lm3 : (-3 : Int32).toInt = -3 := rfl
  have Lm2 : (-2 : Int32).toInt = -2 := rfl
  have L0 : (0 : Int32).toInt = 0 := rfl
  have L1 : (1 : Int32).toInt = 1 := rfl
  have L40 : (40 : Int32).toInt = 40 := rfl
  unfold fX11_newCommunity
  refine k_gR (r' := 1) Wh t_a0 (by decide) rfl rfl (fun x11_ e2_ tx11_ => ?_)
  refine k_obj Wh tx11_ (by decide) ?_
  refine k_cP (kX0_size Wh tx11_) (fun x23_ qx23_ => ?_)
  have x23_l := qx23_.1
  have x23_u := qx23_.2
  refine k_le (fun c4_ => ?_) (fun c4_ => ?_)
  · skip
    refine k_kR e2_ ?_
    refine k_obj Wh t_a0 (by decide) ?_
    refine k_cP (kX11_communityNamed Wh t_a0 tx11_) (fun x55_ qx55_ => ?_)
    rcases x55_ with _ | x55_s
    · rw [if_pos rfl]
      refine k_gI Wh t_a0 (by decide) rfl (fun x76_ e7_ x76_l x76_u => ?_)
      refine k_lt (fun c8_ => ?_) (fun c8_ => ?_)
      · skip
        exact k_rA Wh (by omega) (by omega) e_fv
      · skip
        refine k_kI e7_ ?_
        refine k_gR (r' := 0) Wh t_a0 (by decide) rfl rfl (fun x99_ e10_ tx99_ => ?_)
        refine k_len (B := 1200) Wh tx99_ rfl (fun x1011_ x1011_l x1011_u => ?_)
        refine k_lt (fun c12_ => ?_) (fun c12_ => ?_)
        · skip
          refine k_kR e10_ ?_
          refine k_kI e7_ ?_
          refine k_new (n := 5) Wh (by omega) rfl (fun h13_ sh13_ uh13_ eh13_ gh13_ Wh13_ zh13_ => ?_)
          have e14_ := kg_fr (gh13_ _ (Nat.ne_of_lt (tG_lt Wh t_a0 (by decide)))) e_fv
          have e15_ := kg_fr (gh13_ _ (Nat.ne_of_lt (tG_lt Wh t_a0 (by decide)))) e2_
          have e16_ := kg_fr (gh13_ _ (Nat.ne_of_lt (tG_lt Wh t_a0 (by decide)))) e7_
          refine k_kR e15_ ?_
          refine k_cA (by omega) (by omega) (by first | decide | exact fun _ q => q) (kX2_init Wh13_ (by omega) zh13_ eh13_ tx11_ (by first | omega | assumption | decide)) (fun v18_ h17_ Gh17_ fh17_ qh17_ => ?_)
          have Wh17_ := fh17_.1
          have sh17_ := fh17_.2.1
          have th17_ := fh17_.2.2.1
          have uh17_ := fh17_.2.2.2.1
          have e19_ := kg_fr (fh17_.2.2.2.2.2 _ (tG_lt Wh13_ t_a0 (by decide)) (tg_z t_a0 (by decide) zh13_) (by rw [t_a0.1, t_a0.2]; first | decide | simp)) e14_
          have e20_ := kg_fr (fh17_.2.2.2.2.2 _ (tG_lt Wh13_ t_a0 (by decide)) (tg_z t_a0 (by decide) zh13_) (by rw [t_a0.1, t_a0.2]; first | decide | simp)) e16_
          have t21_ := tg_up fh17_ Wh13_ t_a0 (by decide) (tg_z t_a0 (by decide) zh13_)
          have t22_ := tg_up fh17_ Wh13_ tx11_ (by decide) (tg_z tx11_ (by decide) zh13_)
          have t23_ := tg_up fh17_ Wh13_ tx99_ (by decide) (tg_z tx99_ (by decide) zh13_)
          have := tg_upl fh17_ Wh13_ tx99_ (by decide) (tg_z tx99_ (by decide) zh13_)
          refine k_A t23_ (by first | decide | simp) (w_sR Wh17_ t23_ (by decide) (by decide) rfl (by first | omega | decide) (by first | omega | decide) (tN_s qh17_)) (fun h24_ oh24_ _ => ?_)
          have Wh24_ := oh24_.1
          have sh24_ := oh24_.2.1
          have uh24_ := oh24_.2.2.1
          have e25_ := kg_fr (oh24_.2.2.2 _ (tg_ne t21_ t23_ (by simp))) e19_
          have e26_ := kg_fr (oh24_.2.2.2 _ (tg_ne t21_ t23_ (by simp))) e20_
          refine k_kI e26_ ?_
          refine k_A t21_ (by first | decide | simp) (w_putI Wh24_ t21_ (by decide) rfl (i_lo _) (i_hi _)) (fun h27_ oh27_ xh27_ => ?_)
          have Wh27_ := oh27_.1
          have sh27_ := oh27_.2.1
          have uh27_ := oh27_.2.2.1
          have e28_ := ((xh27_ 16).trans (if_neg (by decide))).trans e25_
          have e29_ := (xh27_ 14).trans (if_pos rfl)
          refine k_kI e29_ ?_
          exact k_rA Wh27_ (by omega) (by omega) e28_
        · skip
          exact k_rA Wh (by omega) (by omega) e_fv
    · rw [if_neg (by simp)]
      have tx55_s := qx55_ x55_s rfl
      exact k_rA Wh (by omega) (by omega) e_fv
  · skip
    exact k_rA Wh (by omega) (by omega) e_fv

-- fX11_tick
set_option maxHeartbeats 4000000 in
theorem kf15X11_tick {G : GT} {fv : Int32} {a0 : Nat} {a1 : Int64} {h : sm_H} (Wh : Wf G h) (t_a0 : tG G a0 12 0) (e_fv : sm_get h (some a0) 11 15 = some (.int fv)) : kJ (RW [(11, 0), (12, 0)] G h (fun (_ : Int64) (h' : sm_H) => sm_get h' (some a0) 11 15 = some (.int fv))) (fX11_tick a0 a1 h) := by
  have L0 : (0 : Int32).toInt = 0 := rfl
  have L1 : (1 : Int32).toInt = 1 := rfl
  unfold fX11_tick
  refine k_l1 (fun c1_ => ?_) (fun c1_ => ?_)
  · skip
    exact k_rW Wh e_fv
  · skip
    refine k_gJ Wh t_a0 (by decide) rfl (fun x12_ e3_ => ?_)
    refine k_l2 (fun c4_ => ?_) (fun c4_ => ?_)
    · skip
      refine k_kJ e3_ ?_
      refine k_W t_a0 (by first | decide | simp) (w_putJ Wh t_a0 (by decide) rfl) (fun h5_ oh5_ xh5_ => ?_)
      have Wh5_ := oh5_.1
      have e6_ := ((xh5_ 15).trans (if_neg (by decide))).trans e_fv
      have e7_ := (xh5_ 16).trans (if_pos rfl)
      refine k_gR (r' := 0) Wh5_ t_a0 (by decide) rfl rfl (fun x48_ e9_ tx48_ => ?_)
      refine k_kJ e7_ ?_
      refine k_W tx48_ (by first | decide | simp) (w_putJ Wh5_ tx48_ (by decide) rfl) (fun h10_ oh10_ xh10_ => ?_)
      have Wh10_ := oh10_.1
      have e11_ := kg_fr (oh10_.2.2.2 _ (tg_ne t_a0 tx48_ (by simp))) e6_
      have e12_ := kg_fr (oh10_.2.2.2 _ (tg_ne t_a0 tx48_ (by simp))) e7_
      refine k_kJ e12_ ?_
      exact k_rW Wh10_ e11_
    · skip
      exact k_rW Wh e_fv

-- fX11_limit
set_option maxHeartbeats 4000000 in
theorem kf16X11_limit {G : GT} {fv : Int64} {a0 : Nat} {a1 : Int32} {h : sm_H} (Wh : Wf G h) (t_a0 : tG G a0 12 0) (e_fv : sm_get h (some a0) 11 16 = some (.long fv)) : kJ (RW [(12, 0)] G h (fun (_ : Int32) (h' : sm_H) => sm_get h' (some a0) 11 16 = some (.long fv))) (fX11_limit a0 a1 h) := by
  have Lm2 : (-2 : Int32).toInt = -2 := rfl
  have L0 : (0 : Int32).toInt = 0 := rfl
  have L1 : (1 : Int32).toInt = 1 := rfl
  have L100 : (100 : Int32).toInt = 100 := rfl
  have L1000 : (1000 : Int32).toInt = 1000 := rfl
  unfold fX11_limit
  refine k_lt (fun c1_ => ?_) (fun c1_ => ?_)
  · skip
    exact k_rW Wh e_fv
  · skip
    refine k_le (fun c2_ => ?_) (fun c2_ => ?_)
    · skip
      refine k_gI Wh t_a0 (by decide) rfl (fun x13_ e4_ x13_l x13_u => ?_)
      refine k_W t_a0 (by first | decide | simp) (w_putI Wh t_a0 (by decide) rfl (i_lo _) (i_hi _)) (fun h5_ oh5_ xh5_ => ?_)
      have Wh5_ := oh5_.1
      have e6_ := ((xh5_ 16).trans (if_neg (by decide))).trans e_fv
      exact k_rW Wh5_ e6_
    · skip
      exact k_rW Wh e_fv

