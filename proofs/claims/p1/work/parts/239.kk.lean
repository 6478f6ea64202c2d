-- fX11_newCommunity
set_option maxHeartbeats 4000000 in
theorem kt0X11_newCommunity {G : GT} {tp : Nat} {a0 : Nat} {a1 : Int32} {h : sm_H} (Wh : Wf G h) (t_a0 : tG G a0 12 0) (p0_ : a1 = 0 ∨ a1 = 1) (t_tp : tG G tp 1 1) (e_tp : sm_get h (some a0) 11 0 = some (va_rf (some tp))) : kJ (RA h.1 h.1 [(1, 3), (12, 0), (21, 3), (26, 0)] (h.1 + 10) (h.2.1 + 100) G h (fun (G : GT) (_ : Int32) (h' : sm_H) => sm_get h' (some a0) 11 0 = some (va_rf (some tp)))) (fX11_newCommunity a0 a1 h) := by
  have Lm4 : (-4 : Int32).toInt = -4 := rfl
  have Lm3 : (-3 : Int32).toInt = -3 := rfl
  have Lm2 : (-2 : Int32).toInt = -2 := rfl
  have L0 : (0 : Int32).toInt = 0 := rfl
  have L1 : (1 : Int32).toInt = 1 := rfl
  have L40 : (40 : Int32).toInt = 40 := rfl
  unfold fX11_newCommunity
  refine k_kR e_tp ?_
  refine k_obj Wh t_tp (by decide) ?_
  refine k_cP (kX0_size Wh t_tp) (fun x21_ qx21_ => ?_)
  have x21_l := qx21_.1
  have x21_u := qx21_.2
  refine k_le (fun c2_ => ?_) (fun c2_ => ?_)
  · skip
    refine k_kR e_tp ?_
    refine k_obj Wh t_a0 (by decide) ?_
    refine k_cP (kX11_communityNamed Wh t_a0 t_tp) (fun x53_ qx53_ => ?_)
    rcases x53_ with _ | x53_s
    · rw [if_pos rfl]
      refine k_gI Wh t_a0 (by decide) rfl (fun x74_ e5_ x74_l x74_u => ?_)
      refine k_lt (fun c6_ => ?_) (fun c6_ => ?_)
      · skip
        exact k_rA Wh (by omega) (by omega) e_tp
      · skip
        refine k_kI e5_ ?_
        refine k_gR (r' := 0) Wh t_a0 (by decide) rfl rfl (fun x97_ e8_ tx97_ => ?_)
        refine k_len (B := 1200) Wh tx97_ rfl (fun x109_ x109_l x109_u => ?_)
        refine k_lt (fun c10_ => ?_) (fun c10_ => ?_)
        · skip
          refine k_kR e8_ ?_
          refine k_kI e5_ ?_
          refine k_new (n := 5) Wh (by omega) rfl (fun h11_ sh11_ uh11_ eh11_ gh11_ Wh11_ zh11_ => ?_)
          have e12_ := kg_fr (gh11_ _ (Nat.ne_of_lt (tG_lt Wh t_a0 (by decide)))) e_tp
          have e13_ := kg_fr (gh11_ _ (Nat.ne_of_lt (tG_lt Wh t_a0 (by decide)))) e5_
          refine k_kR e12_ ?_
          refine k_cA (by omega) (by omega) (by first | decide | exact fun _ q => q) (kX2_init Wh11_ (by omega) zh11_ eh11_ t_tp (by first | omega | assumption | decide)) (fun v15_ h14_ Gh14_ fh14_ qh14_ => ?_)
          have Wh14_ := fh14_.1
          have sh14_ := fh14_.2.1
          have th14_ := fh14_.2.2.1
          have uh14_ := fh14_.2.2.2.1
          have e16_ := kg_fr (fh14_.2.2.2.2.2 _ (tG_lt Wh11_ t_a0 (by decide)) (tg_z t_a0 (by decide) zh11_) (by rw [t_a0.1, t_a0.2]; first | decide | simp)) e12_
          have e17_ := kg_fr (fh14_.2.2.2.2.2 _ (tG_lt Wh11_ t_a0 (by decide)) (tg_z t_a0 (by decide) zh11_) (by rw [t_a0.1, t_a0.2]; first | decide | simp)) e13_
          have t18_ := tg_up fh14_ Wh11_ t_a0 (by decide) (tg_z t_a0 (by decide) zh11_)
          have t19_ := tg_up fh14_ Wh11_ t_tp (by decide) (tg_z t_tp (by decide) zh11_)
          have t20_ := tg_up fh14_ Wh11_ tx97_ (by decide) (tg_z tx97_ (by decide) zh11_)
          have := tg_upl fh14_ Wh11_ tx97_ (by decide) (tg_z tx97_ (by decide) zh11_)
          refine k_A t20_ (by first | decide | simp) (w_sR Wh14_ t20_ (by decide) (by decide) rfl (by first | omega | decide) (by first | omega | decide) (tN_s qh14_)) (fun h21_ oh21_ _ => ?_)
          have Wh21_ := oh21_.1
          have sh21_ := oh21_.2.1
          have uh21_ := oh21_.2.2.1
          have e22_ := kg_fr (oh21_.2.2.2 _ (tg_ne t18_ t20_ (by simp))) e16_
          have e23_ := kg_fr (oh21_.2.2.2 _ (tg_ne t18_ t20_ (by simp))) e17_
          refine k_kI e23_ ?_
          refine k_A t18_ (by first | decide | simp) (w_putI Wh21_ t18_ (by decide) rfl (i_lo _) (i_hi _)) (fun h24_ oh24_ xh24_ => ?_)
          have Wh24_ := oh24_.1
          have sh24_ := oh24_.2.1
          have uh24_ := oh24_.2.2.1
          have e25_ := ((xh24_ 0).trans (if_neg (by decide))).trans e22_
          have e26_ := (xh24_ 14).trans (if_pos rfl)
          refine k_kI e26_ ?_
          exact k_rA Wh24_ (by omega) (by omega) e25_
        · skip
          exact k_rA Wh (by omega) (by omega) e_tp
    · rw [if_neg (by simp)]
      have tx53_s := qx53_ x53_s rfl
      exact k_rA Wh (by omega) (by omega) e_tp
  · skip
    exact k_rA Wh (by omega) (by omega) e_tp

-- fX11_newCommunity
set_option maxHeartbeats 4000000 in
theorem kt1X11_newCommunity {G : GT} {tp : Nat} {a0 : Nat} {a1 : Int32} {h : sm_H} (Wh : Wf G h) (t_a0 : tG G a0 12 0) (p0_ : a1 = 0 ∨ a1 = 1) (t_tp : tG G tp 1 2) (e_tp : sm_get h (some a0) 11 1 = some (va_rf (some tp))) : kJ (RA h.1 h.1 [(1, 3), (12, 0), (21, 3), (26, 0)] (h.1 + 10) (h.2.1 + 100) G h (fun (G : GT) (_ : Int32) (h' : sm_H) => sm_get h' (some a0) 11 1 = some (va_rf (some tp)))) (fX11_newCommunity a0 a1 h) := by
  have Lm4 : (-4 : Int32).toInt = -4 := rfl
  have Lm3 : (-3 : Int32).toInt = -3 := rfl
  have Lm2 : (-2 : Int32).toInt = -2 := rfl
  have L0 : (0 : Int32).toInt = 0 := rfl
  have L1 : (1 : Int32).toInt = 1 := rfl
  have L40 : (40 : Int32).toInt = 40 := rfl
  unfold fX11_newCommunity
  refine k_gR (r' := 1) Wh t_a0 (by decide) rfl rfl (fun x11_ e2_ tx11_ => ?_)
  refine k_obj Wh tx11_ (by decide) ?_
  refine k_cP (kX0_size Wh tx11_) (fun x23_ qx23_ => ?_)
  have x23_l := qx23_.1
  have x23_u := qx23_.2
  refine k_le (fun c4_ => ?_) (fun c4_ => ?_)
  · skip
    refine k_kR e2_ ?_
    refine k_obj Wh t_a0 (by decide) ?_
    refine k_cP (kX11_communityNamed Wh t_a0 tx11_) (fun x55_ qx55_ => ?_)
    rcases x55_ with _ | x55_s
    · rw [if_pos rfl]
      refine k_gI Wh t_a0 (by decide) rfl (fun x76_ e7_ x76_l x76_u => ?_)
      refine k_lt (fun c8_ => ?_) (fun c8_ => ?_)
      · skip
        exact k_rA Wh (by omega) (by omega) e_tp
      · skip
        refine k_kI e7_ ?_
        refine k_gR (r' := 0) Wh t_a0 (by decide) rfl rfl (fun x99_ e10_ tx99_ => ?_)
        refine k_len (B := 1200) Wh tx99_ rfl (fun x1011_ x1011_l x1011_u => ?_)
        refine k_lt (fun c12_ => ?_) (fun c12_ => ?_)
        · skip
          refine k_kR e10_ ?_
          refine k_kI e7_ ?_
          refine k_new (n := 5) Wh (by omega) rfl (fun h13_ sh13_ uh13_ eh13_ gh13_ Wh13_ zh13_ => ?_)
          have e14_ := kg_fr (gh13_ _ (Nat.ne_of_lt (tG_lt Wh t_a0 (by decide)))) e_tp
          have e15_ := kg_fr (gh13_ _ (Nat.ne_of_lt (tG_lt Wh t_a0 (by decide)))) e2_
          have e16_ := kg_fr (gh13_ _ (Nat.ne_of_lt (tG_lt Wh t_a0 (by decide)))) e7_
          refine k_kR e15_ ?_
          refine k_cA (by omega) (by omega) (by first | decide | exact fun _ q => q) (kX2_init Wh13_ (by omega) zh13_ eh13_ tx11_ (by first | omega | assumption | decide)) (fun v18_ h17_ Gh17_ fh17_ qh17_ => ?_)
          have Wh17_ := fh17_.1
          have sh17_ := fh17_.2.1
          have th17_ := fh17_.2.2.1
          have uh17_ := fh17_.2.2.2.1
          have e19_ := kg_fr (fh17_.2.2.2.2.2 _ (tG_lt Wh13_ t_a0 (by decide)) (tg_z t_a0 (by decide) zh13_) (by rw [t_a0.1, t_a0.2]; first | decide | simp)) e14_
          have e20_ := kg_fr (fh17_.2.2.2.2.2 _ (tG_lt Wh13_ t_a0 (by decide)) (tg_z t_a0 (by decide) zh13_) (by rw [t_a0.1, t_a0.2]; first | decide | simp)) e16_
          have t21_ := tg_up fh17_ Wh13_ t_a0 (by decide) (tg_z t_a0 (by decide) zh13_)
          have t22_ := tg_up fh17_ Wh13_ t_tp (by decide) (tg_z t_tp (by decide) zh13_)
          have t23_ := tg_up fh17_ Wh13_ tx11_ (by decide) (tg_z tx11_ (by decide) zh13_)
          have t24_ := tg_up fh17_ Wh13_ tx99_ (by decide) (tg_z tx99_ (by decide) zh13_)
          have := tg_upl fh17_ Wh13_ tx99_ (by decide) (tg_z tx99_ (by decide) zh13_)
          refine k_A t24_ (by first | decide | simp) (w_sR Wh17_ t24_ (by decide) (by decide) rfl (by first | omega | decide) (by first | omega | decide) (tN_s qh17_)) (fun h25_ oh25_ _ => ?_)
          have Wh25_ := oh25_.1
          have sh25_ := oh25_.2.1
          have uh25_ := oh25_.2.2.1
          have e26_ := kg_fr (oh25_.2.2.2 _ (tg_ne t21_ t24_ (by simp))) e19_
          have e27_ := kg_fr (oh25_.2.2.2 _ (tg_ne t21_ t24_ (by simp))) e20_
          refine k_kI e27_ ?_
          refine k_A t21_ (by first | decide | simp) (w_putI Wh25_ t21_ (by decide) rfl (i_lo _) (i_hi _)) (fun h28_ oh28_ xh28_ => ?_)
          have Wh28_ := oh28_.1
          have sh28_ := oh28_.2.1
          have uh28_ := oh28_.2.2.1
          have e29_ := ((xh28_ 1).trans (if_neg (by decide))).trans e26_
          have e30_ := (xh28_ 14).trans (if_pos rfl)
          refine k_kI e30_ ?_
          exact k_rA Wh28_ (by omega) (by omega) e29_
        · skip
          exact k_rA Wh (by omega) (by omega) e_tp
    · rw [if_neg (by simp)]
      have tx55_s := qx55_ x55_s rfl
      exact k_rA Wh (by omega) (by omega) e_tp
  · skip
    exact k_rA Wh (by omega) (by omega) e_tp

-- fX11_limit
set_option maxHeartbeats 4000000 in
theorem kt0X11_limit {G : GT} {tp : Nat} {a0 : Nat} {a1 : Int32} {h : sm_H} (Wh : Wf G h) (t_a0 : tG G a0 12 0) (t_tp : tG G tp 1 1) (e_tp : sm_get h (some a0) 11 0 = some (va_rf (some tp))) : kJ (RW [(12, 0)] G h (fun (_ : Int32) (h' : sm_H) => sm_get h' (some a0) 11 0 = some (va_rf (some tp)))) (fX11_limit a0 a1 h) := by
  have Lm2 : (-2 : Int32).toInt = -2 := rfl
  have L0 : (0 : Int32).toInt = 0 := rfl
  have L1 : (1 : Int32).toInt = 1 := rfl
  have L100 : (100 : Int32).toInt = 100 := rfl
  have L1000 : (1000 : Int32).toInt = 1000 := rfl
  unfold fX11_limit
  refine k_lt (fun c1_ => ?_) (fun c1_ => ?_)
  · skip
    exact k_rW Wh e_tp
  · skip
    refine k_le (fun c2_ => ?_) (fun c2_ => ?_)
    · skip
      refine k_gI Wh t_a0 (by decide) rfl (fun x13_ e4_ x13_l x13_u => ?_)
      refine k_W t_a0 (by first | decide | simp) (w_putI Wh t_a0 (by decide) rfl (i_lo _) (i_hi _)) (fun h5_ oh5_ xh5_ => ?_)
      have Wh5_ := oh5_.1
      have e6_ := ((xh5_ 0).trans (if_neg (by decide))).trans e_tp
      exact k_rW Wh5_ e6_
    · skip
      exact k_rW Wh e_tp

-- fX11_limit
set_option maxHeartbeats 4000000 in
theorem kt1X11_limit {G : GT} {tp : Nat} {a0 : Nat} {a1 : Int32} {h : sm_H} (Wh : Wf G h) (t_a0 : tG G a0 12 0) (t_tp : tG G tp 1 2) (e_tp : sm_get h (some a0) 11 1 = some (va_rf (some tp))) : kJ (RW [(12, 0)] G h (fun (_ : Int32) (h' : sm_H) => sm_get h' (some a0) 11 1 = some (va_rf (some tp)))) (fX11_limit a0 a1 h) := by
  have Lm2 : (-2 : Int32).toInt = -2 := rfl
  have L0 : (0 : Int32).toInt = 0 := rfl
  have L1 : (1 : Int32).toInt = 1 := rfl
  have L100 : (100 : Int32).toInt = 100 := rfl
  have L1000 : (1000 : Int32).toInt = 1000 := rfl
  unfold fX11_limit
  refine k_lt (fun c1_ => ?_) (fun c1_ => ?_)
  · skip
    exact k_rW Wh e_tp
  · skip
    refine k_le (fun c2_ => ?_) (fun c2_ => ?_)
    · skip
      refine k_gI Wh t_a0 (by decide) rfl (fun x13_ e4_ x13_l x13_u => ?_)
      refine k_W t_a0 (by first | decide | simp) (w_putI Wh t_a0 (by decide) rfl (i_lo _) (i_hi _)) (fun h5_ oh5_ xh5_ => ?_)
      have Wh5_ := oh5_.1
      have e6_ := ((xh5_ 1).trans (if_neg (by decide))).trans e_tp
      exact k_rW Wh5_ e6_
    · skip
      exact k_rW Wh e_tp

-- fX11_tick
set_option maxHeartbeats 4000000 in
theorem kt0X11_tick {G : GT} {tp : Nat} {a0 : Nat} {a1 : Int64} {h : sm_H} (Wh : Wf G h) (t_a0 : tG G a0 12 0) (t_tp : tG G tp 1 1) (e_tp : sm_get h (some a0) 11 0 = some (va_rf (some tp))) : kJ (RW [(11, 0), (12, 0)] G h (fun (_ : Int64) (h' : sm_H) => sm_get h' (some a0) 11 0 = some (va_rf (some tp)))) (fX11_tick a0 a1 h) := by
  have L0 : (0 : Int32).toInt = 0 := rfl
  have L1 : (1 : Int32).toInt = 1 := rfl
  unfold fX11_tick
  refine k_l1 (fun c1_ => ?_) (fun c1_ => ?_)
  · skip
    exact k_rW Wh e_tp
  · skip
    refine k_gJ Wh t_a0 (by decide) rfl (fun x12_ e3_ => ?_)
    refine k_l2 (fun c4_ => ?_) (fun c4_ => ?_)
    · skip
      refine k_kJ e3_ ?_
      refine k_W t_a0 (by first | decide | simp) (w_putJ Wh t_a0 (by decide) rfl) (fun h5_ oh5_ xh5_ => ?_)
      have Wh5_ := oh5_.1
      have e6_ := ((xh5_ 0).trans (if_neg (by decide))).trans e_tp
      have e7_ := (xh5_ 16).trans (if_pos rfl)
      refine k_gR (r' := 0) Wh5_ t_a0 (by decide) rfl rfl (fun x48_ e9_ tx48_ => ?_)
      refine k_kJ e7_ ?_
      refine k_W tx48_ (by first | decide | simp) (w_putJ Wh5_ tx48_ (by decide) rfl) (fun h10_ oh10_ xh10_ => ?_)
      have Wh10_ := oh10_.1
      have e11_ := kg_fr (oh10_.2.2.2 _ (tg_ne t_a0 tx48_ (by simp))) e6_
      have e12_ := kg_fr (oh10_.2.2.2 _ (tg_ne t_a0 tx48_ (by simp))) e7_
      refine k_kJ e12_ ?_
      exact k_rW Wh10_ e11_
    · skip
      exact k_rW Wh e_tp

-- fX11_tick
set_option maxHeartbeats 4000000 in
theorem kt1X11_tick {G : GT} {tp : Nat} {a0 : Nat} {a1 : Int64} {h : sm_H} (Wh : Wf G h) (t_a0 : tG G a0 12 0) (t_tp : tG G tp 1 2) (e_tp : sm_get h (some a0) 11 1 = some (va_rf (some tp))) : kJ (RW [(11, 0), (12, 0)] G h (fun (_ : Int64) (h' : sm_H) => sm_get h' (some a0) 11 1 = some (va_rf (some tp)))) (fX11_tick a0 a1 h) := by
  have L0 : (0 : Int32).toInt = 0 := rfl
  have L1 : (1 : Int32).toInt = 1 := rfl
  unfold fX11_tick
  refine k_l1 (fun c1_ => ?_) (fun c1_ => ?_)
  · skip
    exact k_rW Wh e_tp
  · skip
    refine k_gJ Wh t_a0 (by decide) rfl (fun x12_ e3_ => ?_)
    refine k_l2 (fun c4_ => ?_) (fun c4_ => ?_)
    · skip
      refine k_kJ e3_ ?_
      refine k_W t_a0 (by first | decide | simp) (w_putJ Wh t_a0 (by decide) rfl) (fun h5_ oh5_ xh5_ => ?_)
      have Wh5_ := oh5_.1
      have e6_ := ((xh5_ 1).trans (if_neg (by decide))).trans e_tp
      have e7_ := (xh5_ 16).trans (if_pos rfl)
      refine k_gR (r' := 0) Wh5_ t_a0 (by decide) rfl rfl (fun x48_ e9_ tx48_ => ?_)
      refine k_kJ e7_ ?_
      refine k_W tx48_ (by first | decide | simp) (w_putJ Wh5_ tx48_ (by decide) rfl) (fun h10_ oh10_ xh10_ => ?_)
      have Wh10_ := oh10_.1
      have e11_ := kg_fr (oh10_.2.2.2 _ (tg_ne t_a0 tx48_ (by simp))) e6_
      have e12_ := kg_fr (oh10_.2.2.2 _ (tg_ne t_a0 tx48_ (by simp))) e7_
      refine k_kJ e12_ ?_
      exact k_rW Wh10_ e11_
    · skip
      exact k_rW Wh e_tp

