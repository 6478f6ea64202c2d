-- fX11_value
set_option maxHeartbeats 4000000 in
theorem kX11_value {G : GT} {a0 : Nat} {a1 : Int32} {a2 : Int32} {a3 : Int64} {h : sm_H} (Wh : Wf G h) (t_a0 : tG G a0 12 0) : kJ (RW [(11, 0)] G h (fun (r : Int32) (_ : sm_H) => True)) (fX11_value a0 a1 a2 a3 h) := by
  have Lm2 : (-2 : Int32).toInt = -2 := rfl
  have Lm1 : (-1 : Int32).toInt = -1 := rfl
  have L0 : (0 : Int32).toInt = 0 := rfl
  have L1 : (1 : Int32).toInt = 1 := rfl
  have L64 : (64 : Int32).toInt = 64 := rfl
  unfold fX11_value
  refine k_gR (r' := 0) Wh t_a0 (by decide) rfl rfl (fun x11_ e2_ tx11_ => ?_)
  refine k_obj Wh tx11_ (by decide) ?_
  refine k_cP (kX9_thingAt Wh tx11_) (fun x23_ qx23_ => ?_)
  rcases x23_ with _ | x23_s
  · rw [if_pos rfl]
    exact k_rW Wh trivial
  · rw [if_neg (by simp)]
    have tx23_s := qx23_ x23_s rfl
    refine k_obj Wh tx23_s (by decide) ?_
    refine k_cP (kX8_isStatus Wh tx23_s) (fun x44_ qx44_ => ?_)
    refine k_if (fun c5_ => ?_) (fun c5_ => ?_)
    · skip
      refine k_obj Wh tx23_s (by decide) ?_
      refine k_cP (kX8_cellFor Wh tx23_s) (fun x66_ qx66_ => ?_)
      rcases x66_ with _ | x66_s
      · rw [if_pos rfl]
        exact k_rW Wh trivial
      · rw [if_neg (by simp)]
        have tx66_s := qx66_ x66_s rfl
        refine k_obj Wh tx66_s (by decide) ?_
        refine k_cP (kX10_isOfParts Wh tx66_s) (fun x87_ qx87_ => ?_)
        refine k_if (fun c8_ => ?_) (fun c8_ => ?_)
        · skip
          refine k_gI Wh tx66_s (by decide) rfl (fun x109_ e10_ x109_l x109_u => ?_)
          refine k_cP (kX11_isNumberOf Wh ) (fun x1111_ qx1111_ => ?_)
          refine k_if (fun c12_ => ?_) (fun c12_ => ?_)
          · skip
            exact k_rW Wh trivial
          · skip
            refine k_kI e10_ ?_
            refine k_if (fun c13_ => ?_) (fun c13_ => ?_)
            · skip
              refine k_W tx66_s (by first | decide | simp) (w_putJ Wh tx66_s (by decide) rfl) (fun h14_ oh14_ xh14_ => ?_)
              have Wh14_ := oh14_.1
              exact k_rW Wh14_ trivial
            · skip
              refine k_W tx66_s (by first | decide | simp) (w_putJ Wh tx66_s (by decide) rfl) (fun h15_ oh15_ xh15_ => ?_)
              have Wh15_ := oh15_.1
              exact k_rW Wh15_ trivial
        · skip
          exact k_rW Wh trivial
    · skip
      obtain ⟨b16_, e17_⟩ := qx44_.2 c5_
      have tb16_ := kw_tab Wh tx23_s e17_
      exact k_rW Wh trivial

-- fX11_cellOfTag
set_option maxHeartbeats 4000000 in
theorem kX11_cellOfTag {G : GT} {a0 : Nat} {a1 : Int32} {a2 : Int32} {a3 : Int32} {h : sm_H} (Wh : Wf G h) (t_a0 : tG G a0 12 0) : kJ (RP G h (fun r : Option Nat => tN G r 11 0)) (fX11_cellOfTag a0 a1 a2 a3 h) := by
  have L0 : (0 : Int32).toInt = 0 := rfl
  have L1 : (1 : Int32).toInt = 1 := rfl
  unfold fX11_cellOfTag
  refine k_gR (r' := 0) Wh t_a0 (by decide) rfl rfl (fun x11_ e2_ tx11_ => ?_)
  refine k_obj Wh tx11_ (by decide) ?_
  refine k_cP (kX9_thingAt Wh tx11_) (fun x23_ qx23_ => ?_)
  rcases x23_ with _ | x23_s
  · rw [if_pos rfl]
    exact k_rP tN_n
  · rw [if_neg (by simp)]
    have tx23_s := qx23_ x23_s rfl
    refine k_gI Wh tx23_s (by decide) rfl (fun x44_ e5_ x44_l x44_u => ?_)
    refine k_if (fun c6_ => ?_) (fun c6_ => ?_)
    · skip
      refine k_obj Wh tx23_s (by decide) ?_
      refine k_cP (kX8_cellFor Wh tx23_s) (fun x57_ qx57_ => ?_)
      exact k_rP qx57_
    · skip
      exact k_rP tN_n

-- fX11_becomeText
set_option maxHeartbeats 4000000 in
theorem kX11_becomeText {G : GT} {a0 : Nat} {a1 : Int32} {a2 : Int32} {h : sm_H} (Wh : Wf G h) (t_a0 : tG G a0 12 0) : kJ (RW [(1, 0), (21, 0)] G h (fun (r : Int32) (_ : sm_H) => True)) (fX11_becomeText a0 a1 a2 h) := by
  have Lm2 : (-2 : Int32).toInt = -2 := rfl
  have Lm1 : (-1 : Int32).toInt = -1 := rfl
  have L0 : (0 : Int32).toInt = 0 := rfl
  have L1 : (1 : Int32).toInt = 1 := rfl
  have L4 : (4 : Int32).toInt = 4 := rfl
  have L40 : (40 : Int32).toInt = 40 := rfl
  unfold fX11_becomeText
  refine k_obj Wh t_a0 (by decide) ?_
  refine k_cP (kX11_cellOfTag Wh t_a0) (fun x11_ qx11_ => ?_)
  rcases x11_ with _ | x11_s
  · rw [if_pos rfl]
    exact k_rW Wh trivial
  · rw [if_neg (by simp)]
    have tx11_s := qx11_ x11_s rfl
    refine k_gR (r' := 1) Wh t_a0 (by decide) rfl rfl (fun x32_ e3_ tx32_ => ?_)
    refine k_obj Wh tx32_ (by decide) ?_
    refine k_cP (kX0_size Wh tx32_) (fun x44_ qx44_ => ?_)
    have x44_l := qx44_.1
    have x44_u := qx44_.2
    refine k_le (fun c5_ => ?_) (fun c5_ => ?_)
    · skip
      refine k_gR (r' := 0) Wh tx11_s (by decide) rfl rfl (fun x66_ e7_ tx66_ => ?_)
      refine k_kR e3_ ?_
      refine k_obj Wh tx66_ (by decide) ?_
      refine k_cWW (kX0_copy Wh tx66_ tx32_) (by first | decide | exact fun _ q => q) (fun v8_ h9_ fh9_ qv8_ => ?_)
      have Wh9_ := fh9_.1
      have e10_ := kg_fr (fh9_.2.2.2 _ (by rw [t_a0.1, t_a0.2]; first | decide | simp)) e3_
      refine k_kR e10_ ?_
      refine k_obj Wh9_ tx32_ (by decide) ?_
      refine k_cP (kX0_size Wh9_ tx32_) (fun x1011_ qx1011_ => ?_)
      have x1011_l := qx1011_.1
      have x1011_u := qx1011_.2
      exact k_rW Wh9_ trivial
    · skip
      exact k_rW Wh trivial

-- fX11_text
set_option maxHeartbeats 4000000 in
theorem kX11_text {G : GT} {a0 : Nat} {a1 : Int32} {a2 : Int32} {h : sm_H} (Wh : Wf G h) (t_a0 : tG G a0 12 0) : kJ (RW [(1, 0), (1, 1), (21, 0)] G h (fun (r : Int32) (_ : sm_H) => True)) (fX11_text a0 a1 a2 h) := by
  have L0 : (0 : Int32).toInt = 0 := rfl
  have L1 : (1 : Int32).toInt = 1 := rfl
  unfold fX11_text
  refine k_obj Wh t_a0 (by decide) ?_
  refine k_cWW (kX11_becomeText Wh t_a0) (by first | decide | exact fun _ q => q) (fun x11_ h2_ fh2_ qx11_ => ?_)
  have Wh2_ := fh2_.1
  refine k_gR (r' := 1) Wh2_ t_a0 (by decide) rfl rfl (fun x33_ e4_ tx33_ => ?_)
  refine k_obj Wh2_ tx33_ (by decide) ?_
  refine k_cWW (kX0_clear Wh2_ tx33_) (by first | decide | exact fun _ q => q) (fun v5_ h6_ fh6_ qv5_ => ?_)
  have Wh6_ := fh6_.1
  exact k_rW Wh6_ trivial

-- fX11_becomeName
set_option maxHeartbeats 4000000 in
theorem kX11_becomeName {G : GT} {a0 : Nat} {a1 : Int32} {a2 : Int32} {h : sm_H} (Wh : Wf G h) (t_a0 : tG G a0 12 0) : kJ (RW [(1, 0), (21, 0)] G h (fun (r : Int32) (_ : sm_H) => True)) (fX11_becomeName a0 a1 a2 h) := by
  have Lm2 : (-2 : Int32).toInt = -2 := rfl
  have Lm1 : (-1 : Int32).toInt = -1 := rfl
  have L0 : (0 : Int32).toInt = 0 := rfl
  have L1 : (1 : Int32).toInt = 1 := rfl
  have L6 : (6 : Int32).toInt = 6 := rfl
  have L16 : (16 : Int32).toInt = 16 := rfl
  unfold fX11_becomeName
  refine k_obj Wh t_a0 (by decide) ?_
  refine k_cP (kX11_cellOfTag Wh t_a0) (fun x11_ qx11_ => ?_)
  rcases x11_ with _ | x11_s
  · rw [if_pos rfl]
    exact k_rW Wh trivial
  · rw [if_neg (by simp)]
    have tx11_s := qx11_ x11_s rfl
    refine k_obj Wh t_a0 (by decide) ?_
    refine k_cP (kX11_isNameAtHand Wh t_a0) (fun x32_ qx32_ => ?_)
    refine k_if (fun c3_ => ?_) (fun c3_ => ?_)
    · skip
      exact k_rW Wh trivial
    · skip
      refine k_gR (r' := 0) Wh tx11_s (by decide) rfl rfl (fun x54_ e5_ tx54_ => ?_)
      refine k_gR (r' := 2) Wh t_a0 (by decide) rfl rfl (fun x66_ e7_ tx66_ => ?_)
      refine k_obj Wh tx54_ (by decide) ?_
      refine k_cWW (kX0_copy Wh tx54_ tx66_) (by first | decide | exact fun _ q => q) (fun v8_ h9_ fh9_ qv8_ => ?_)
      have Wh9_ := fh9_.1
      have e10_ := kg_fr (fh9_.2.2.2 _ (by rw [t_a0.1, t_a0.2]; first | decide | simp)) e7_
      refine k_kR e10_ ?_
      refine k_obj Wh9_ tx66_ (by decide) ?_
      refine k_cP (kX0_size Wh9_ tx66_) (fun x911_ qx911_ => ?_)
      have x911_l := qx911_.1
      have x911_u := qx911_.2
      exact k_rW Wh9_ trivial

-- fX11_identity
set_option maxHeartbeats 4000000 in
theorem kX11_identity {G : GT} {a0 : Nat} {a1 : Int32} {a2 : Int32} {h : sm_H} (Wh : Wf G h) (t_a0 : tG G a0 12 0) : kJ (RW [(1, 0), (1, 2), (21, 0)] G h (fun (r : Int32) (_ : sm_H) => True)) (fX11_identity a0 a1 a2 h) := by
  have L0 : (0 : Int32).toInt = 0 := rfl
  have L1 : (1 : Int32).toInt = 1 := rfl
  unfold fX11_identity
  refine k_obj Wh t_a0 (by decide) ?_
  refine k_cWW (kX11_becomeName Wh t_a0) (by first | decide | exact fun _ q => q) (fun x11_ h2_ fh2_ qx11_ => ?_)
  have Wh2_ := fh2_.1
  refine k_gR (r' := 2) Wh2_ t_a0 (by decide) rfl rfl (fun x33_ e4_ tx33_ => ?_)
  refine k_obj Wh2_ tx33_ (by decide) ?_
  refine k_cWW (kX0_clear Wh2_ tx33_) (by first | decide | exact fun _ q => q) (fun v5_ h6_ fh6_ qv5_ => ?_)
  have Wh6_ := fh6_.1
  exact k_rW Wh6_ trivial

-- fX11_communityNamed_2
set_option maxHeartbeats 4000000 in
theorem kX11_communityNamed_2 {G : GT} {r_a1 : Nat} : ∀ (n : Nat) (a0 : Nat) (a1 : Nat) (a2 : Int32) (h : sm_H), Wf G h → tG G a0 12 0 → tG G a1 1 r_a1 → 0 ≤ a2.toInt → a2.toInt ≤ 1200 → 1200 - a2.toInt < (n : Int) → kJ (RP G h (fun r : Option Nat => tN G r 3 0)) (fX11_communityNamed_2 n a0 (some a1) a2 h) := by
  have L0 : (0 : Int32).toInt = 0 := rfl
  have L1 : (1 : Int32).toInt = 1 := rfl
  intro n
  induction n with
  | zero => intro a0 a1 a2 h Wh t_a0 t_a1 p0_ p1_ m_; exfalso; omega
  | succ n ih =>
    intro a0 a1 a2 h Wh t_a0 t_a1 p0_ p1_ m_
    unfold fX11_communityNamed_2
    refine k_gR (r' := 0) Wh t_a0 (by decide) rfl rfl (fun x11_ e2_ tx11_ => ?_)
    refine k_len (B := 1200) Wh tx11_ rfl (fun x23_ x23_l x23_u => ?_)
    refine k_le (fun c4_ => ?_) (fun c4_ => ?_)
    · skip
      exact k_rP tN_n
    · skip
      refine k_kR e2_ ?_
      refine k_aR (c' := 3) Wh tx11_ (by decide) rfl (by first | omega | decide) (by first | omega | decide) (fun x45_ tx45_ => ?_)
      rcases x45_ with _ | x45_s
      · rw [if_pos rfl]
        first | refine k_add (by omega) (by omega) (fun x56_ x56_q => ?_) | refine k_let (fun x56_ => ?_)
        exact ih _ _ _ _ Wh t_a0 t_a1 (by first | omega | assumption | decide) (by first | omega | assumption | decide) (by omega)
      · rw [if_neg (by simp)]
        have tx45_s := tx45_ x45_s rfl
        refine k_gR (r' := 3) Wh tx45_s (by decide) rfl rfl (fun x67_ e8_ tx67_ => ?_)
        refine k_obj Wh tx67_ (by decide) ?_
        refine k_cP (kX0_isSame Wh tx67_ t_a1) (fun x79_ qx79_ => ?_)
        refine k_if (fun c10_ => ?_) (fun c10_ => ?_)
        · skip
          first | refine k_add (by omega) (by omega) (fun x911_ x911_q => ?_) | refine k_let (fun x911_ => ?_)
          exact ih _ _ _ _ Wh t_a0 t_a1 (by first | omega | assumption | decide) (by first | omega | assumption | decide) (by omega)
        · skip
          exact k_rP (tN_s tx45_s)

-- fX11_communityNamed
set_option maxHeartbeats 4000000 in
theorem kX11_communityNamed {G : GT} {r_a1 : Nat} {a0 : Nat} {a1 : Nat} {h : sm_H} (Wh : Wf G h) (t_a0 : tG G a0 12 0) (t_a1 : tG G a1 1 r_a1) : kJ (RP G h (fun r : Option Nat => tN G r 3 0)) (fX11_communityNamed a0 (some a1) h) := by
  have L0 : (0 : Int32).toInt = 0 := rfl
  have L1 : (1 : Int32).toInt = 1 := rfl
  unfold fX11_communityNamed
  exact k_PP (kX11_communityNamed_2 _ _ _ _ _ Wh t_a0 t_a1 (by first | omega | assumption | decide) (by first | omega | assumption | decide) (by simp only [sm_fuel_eq]; omega)) (fun _ q => q)

-- fX11_limit
set_option maxHeartbeats 4000000 in
theorem kX11_limit {G : GT} {a0 : Nat} {a1 : Int32} {h : sm_H} (Wh : Wf G h) (t_a0 : tG G a0 12 0) : kJ (RW [(12, 0)] G h (fun (r : Int32) (_ : sm_H) => True)) (fX11_limit a0 a1 h) := by
  have Lm2 : (-2 : Int32).toInt = -2 := rfl
  have L0 : (0 : Int32).toInt = 0 := rfl
  have L1 : (1 : Int32).toInt = 1 := rfl
  have L100 : (100 : Int32).toInt = 100 := rfl
  have L1000 : (1000 : Int32).toInt = 1000 := rfl
  unfold fX11_limit
  refine k_lt (fun c1_ => ?_) (fun c1_ => ?_)
  · skip
    exact k_rW Wh trivial
  · skip
    refine k_le (fun c2_ => ?_) (fun c2_ => ?_)
    · skip
      refine k_gI Wh t_a0 (by decide) rfl (fun x13_ e4_ x13_l x13_u => ?_)
      refine k_W t_a0 (by first | decide | simp) (w_putI Wh t_a0 (by decide) rfl (i_lo _) (i_hi _)) (fun h5_ oh5_ xh5_ => ?_)
      have Wh5_ := oh5_.1
      exact k_rW Wh5_ trivial
    · skip
      exact k_rW Wh trivial

-- fX11_tick
set_option maxHeartbeats 4000000 in
theorem kX11_tick {G : GT} {a0 : Nat} {a1 : Int64} {h : sm_H} (Wh : Wf G h) (t_a0 : tG G a0 12 0) : kJ (RW [(11, 0), (12, 0)] G h (fun (r : Int64) (_ : sm_H) => True)) (fX11_tick a0 a1 h) := by
  have L0 : (0 : Int32).toInt = 0 := rfl
  have L1 : (1 : Int32).toInt = 1 := rfl
  unfold fX11_tick
  refine k_l1 (fun c1_ => ?_) (fun c1_ => ?_)
  · skip
    exact k_rW Wh trivial
  · skip
    refine k_gJ Wh t_a0 (by decide) rfl (fun x12_ e3_ => ?_)
    refine k_l2 (fun c4_ => ?_) (fun c4_ => ?_)
    · skip
      refine k_kJ e3_ ?_
      refine k_W t_a0 (by first | decide | simp) (w_putJ Wh t_a0 (by decide) rfl) (fun h5_ oh5_ xh5_ => ?_)
      have Wh5_ := oh5_.1
      have e6_ := (xh5_ 16).trans (if_pos rfl)
      refine k_gR (r' := 0) Wh5_ t_a0 (by decide) rfl rfl (fun x47_ e8_ tx47_ => ?_)
      refine k_kJ e6_ ?_
      refine k_W tx47_ (by first | decide | simp) (w_putJ Wh5_ tx47_ (by decide) rfl) (fun h9_ oh9_ xh9_ => ?_)
      have Wh9_ := oh9_.1
      have e10_ := kg_fr (oh9_.2.2.2 _ (tg_ne t_a0 tx47_ (by simp))) e6_
      refine k_kJ e10_ ?_
      exact k_rW Wh9_ trivial
    · skip
      exact k_rW Wh trivial

-- fX11_takeMessage
set_option maxHeartbeats 4000000 in
theorem kX11_takeMessage {G : GT} {a0 : Nat} {h : sm_H} (Wh : Wf G h) (t_a0 : tG G a0 12 0) : kJ (RW [(1, 0), (4, 0), (6, 0), (11, 0), (21, 0)] G h (fun (r : Int32) (_ : sm_H) => True)) (fX11_takeMessage a0 h) := by
  have L0 : (0 : Int32).toInt = 0 := rfl
  have L1 : (1 : Int32).toInt = 1 := rfl
  have L3 : (3 : Int32).toInt = 3 := rfl
  unfold fX11_takeMessage
  refine k_gR (r' := 0) Wh t_a0 (by decide) rfl rfl (fun x11_ e2_ tx11_ => ?_)
  refine k_gR (r' := 0) Wh t_a0 (by decide) rfl rfl (fun x23_ e4_ tx23_ => ?_)
  refine k_obj Wh tx11_ (by decide) ?_
  refine k_cWW (kX5_readHead Wh tx11_ tx23_) (by first | decide | exact fun _ q => q) (fun x35_ h6_ fh6_ qx35_ => ?_)
  have Wh6_ := fh6_.1
  have e7_ := kg_fr (fh6_.2.2.2 _ (by rw [t_a0.1, t_a0.2]; first | decide | simp)) e2_
  have e8_ := kg_fr (fh6_.2.2.2 _ (by rw [t_a0.1, t_a0.2]; first | decide | simp)) e4_
  refine k_if (fun c9_ => ?_) (fun c9_ => ?_)
  · skip
    refine k_kR e8_ ?_
    refine k_kR e8_ ?_
    refine k_gR (r' := 0) Wh6_ tx23_ (by decide) rfl rfl (fun x710_ e11_ tx710_ => ?_)
    refine k_obj Wh6_ t_a0 (by decide) ?_
    refine k_cP (kX11_communityNamed Wh6_ t_a0 tx710_) (fun x812_ qx812_ => ?_)
    refine k_W tx23_ (by first | decide | simp) (w_putR Wh6_ tx23_ (by decide) rfl rfl (fun q => absurd q (by decide)) qx812_) (fun h13_ oh13_ xh13_ => ?_)
    have Wh13_ := oh13_.1
    have e14_ := kg_fr (oh13_.2.2.2 _ (tg_ne t_a0 tx23_ (by simp))) e7_
    have e15_ := kg_fr (oh13_.2.2.2 _ (tg_ne t_a0 tx23_ (by simp))) e8_
    refine k_kR e15_ ?_
    refine k_gN (r' := 0) Wh13_ tx23_ (by decide) rfl rfl (fun x1216_ e17_ tx1216_ => ?_)
    rcases x1216_ with _ | x1216_s
    · rw [if_pos rfl]
      exact k_rW Wh13_ trivial
    · rw [if_neg (by simp)]
      have tx1216_s := tx1216_ x1216_s rfl
      refine k_kR e14_ ?_
      refine k_kR e15_ ?_
      refine k_obj Wh13_ tx11_ (by decide) ?_
      refine k_cWW (kX5_readBody Wh13_ tx11_ tx23_) (by first | decide | exact fun _ q => q) (fun x1518_ h19_ fh19_ qx1518_ => ?_)
      have Wh19_ := fh19_.1
      refine k_if (fun c20_ => ?_) (fun c20_ => ?_)
      · skip
        exact k_rW Wh19_ trivial
      · skip
        exact k_rW Wh19_ trivial
  · skip
    exact k_rW Wh6_ trivial

-- fX11_countOne
set_option maxHeartbeats 4000000 in
theorem kX11_countOne {G : GT} {a0 : Nat} {a1 : Int32} {h : sm_H} (Wh : Wf G h) (t_a0 : tG G a0 12 0) : kJ (RW [(20, 0)] G h (fun (r : Unit) (_ : sm_H) => True)) (fX11_countOne a0 a1 h) := by
  have L0 : (0 : Int32).toInt = 0 := rfl
  have L1 : (1 : Int32).toInt = 1 := rfl
  unfold fX11_countOne
  refine k_lt (fun c1_ => ?_) (fun c1_ => ?_)
  · skip
    exact k_rW Wh trivial
  · skip
    refine k_gR (r' := 0) Wh t_a0 (by decide) rfl rfl (fun x12_ e3_ tx12_ => ?_)
    refine k_len (B := 1200) Wh tx12_ rfl (fun x24_ x24_l x24_u => ?_)
    refine k_le (fun c5_ => ?_) (fun c5_ => ?_)
    · skip
      exact k_rW Wh trivial
    · skip
      refine k_kR e3_ ?_
      refine k_aI Wh tx12_ (by decide) (by first | omega | decide) (by first | omega | decide) (fun x46_ => ?_)
      refine k_W tx12_ (by first | decide | simp) (w_sI Wh tx12_ (by decide) (by first | omega | decide) (by first | omega | decide)) (fun h7_ oh7_ _ => ?_)
      have Wh7_ := oh7_.1
      exact k_rW Wh7_ trivial

-- fX11_valueFor
set_option maxHeartbeats 4000000 in
theorem kX11_valueFor {G : GT} {r_a1 : Nat} {a0 : Nat} {a1 : Nat} {h : sm_H} (Wh : Wf G h) (t_a0 : tG G a0 12 0) (t_a1 : tG G a1 1 r_a1) : kJ (RP G h (fun r : Option Nat => ∃ b, r = some b ∧ tG G b 11 0)) (fX11_valueFor a0 (some a1) h) := by
  have L0 : (0 : Int32).toInt = 0 := rfl
  have L1 : (1 : Int32).toInt = 1 := rfl
  unfold fX11_valueFor
  refine k_gR (r' := 0) Wh t_a0 (by decide) rfl rfl (fun x11_ e2_ tx11_ => ?_)
  refine k_obj Wh tx11_ (by decide) ?_
  refine k_cP (kX9_thingFor Wh tx11_ t_a1) (fun x23_ qx23_ => ?_)
  refine k_gR (r' := 0) Wh t_a0 (by decide) rfl rfl (fun x44_ e5_ tx44_ => ?_)
  refine k_gN (r' := 0) Wh tx44_ (by decide) rfl rfl (fun x56_ e7_ tx56_ => ?_)
  rcases x23_ with _ | x23_s
  · rw [if_pos rfl]
    refine k_gR (r' := 0) Wh t_a0 (by decide) rfl rfl (fun x68_ e9_ tx68_ => ?_)
    exact k_rP ⟨_, rfl, tx68_⟩
  · rw [if_neg (by simp)]
    have tx23_s := qx23_ x23_s rfl
    refine k_gI Wh tx23_s (by decide) rfl (fun x710_ e11_ x710_l x710_u => ?_)
    refine k_if (fun c12_ => ?_) (fun c12_ => ?_)
    · skip
      refine k_gR (r' := 0) Wh t_a0 (by decide) rfl rfl (fun x813_ e14_ tx813_ => ?_)
      exact k_rP ⟨_, rfl, tx813_⟩
    · skip
      rcases x56_ with _ | x56_s
      · rw [if_pos rfl]
        refine k_gR (r' := 0) Wh t_a0 (by decide) rfl rfl (fun x915_ e16_ tx915_ => ?_)
        exact k_rP ⟨_, rfl, tx915_⟩
      · rw [if_neg (by simp)]
        have tx56_s := tx56_ x56_s rfl
        refine k_obj Wh tx56_s (by decide) ?_
        refine k_cP (kX2_shows Wh tx56_s t_a1) (fun x1017_ qx1017_ => ?_)
        refine k_if (fun c18_ => ?_) (fun c18_ => ?_)
        · skip
          refine k_gR (r' := 0) Wh t_a0 (by decide) rfl rfl (fun x2519_ e20_ tx2519_ => ?_)
          exact k_rP ⟨_, rfl, tx2519_⟩
        · skip
          refine k_gR (r' := 0) Wh tx23_s (by decide) rfl rfl (fun x1221_ e22_ tx1221_ => ?_)
          refine k_obj Wh tx1221_ (by decide) ?_
          refine k_cP (kX0_size Wh tx1221_) (fun x1323_ qx1323_ => ?_)
          have x1323_l := qx1323_.1
          have x1323_u := qx1323_.2
          refine k_obj Wh t_a1 (by decide) ?_
          refine k_cP (kX0_size Wh t_a1) (fun x1524_ qx1524_ => ?_)
          have x1524_l := qx1524_.1
          have x1524_u := qx1524_.2
          refine k_if (fun c25_ => ?_) (fun c25_ => ?_)
          · skip
            refine k_obj Wh t_a1 (by decide) ?_
            refine k_cP (kX0_at Wh t_a1) (fun x1726_ qx1726_ => ?_)
            refine k_obj Wh tx23_s (by decide) ?_
            refine k_cP (kX8_cellFor Wh tx23_s) (fun x1927_ qx1927_ => ?_)
            unfold fX11_valueFor_79
            rcases x1927_ with _ | x1927_s
            · rw [if_pos rfl]
              refine k_gR (r' := 0) Wh t_a0 (by decide) rfl rfl (fun x528_ e29_ tx528_ => ?_)
              exact k_rP ⟨_, rfl, tx528_⟩
            · rw [if_neg (by simp)]
              have tx1927_s := qx1927_ x1927_s rfl
              refine k_obj Wh tx23_s (by decide) ?_
              refine k_cP (kX8_tellsClock Wh tx23_s) (fun x130_ qx130_ => ?_)
              refine k_if (fun c31_ => ?_) (fun c31_ => ?_)
              · skip
                exact k_rP ⟨_, rfl, tx1927_s⟩
              · skip
                refine k_gR (r' := 0) Wh t_a0 (by decide) rfl rfl (fun x332_ e33_ tx332_ => ?_)
                exact k_rP ⟨_, rfl, tx332_⟩
          · skip
            unfold fX11_valueFor_79
            rw [if_pos rfl]
            refine k_gR (r' := 0) Wh t_a0 (by decide) rfl rfl (fun x534_ e35_ tx534_ => ?_)
            exact k_rP ⟨_, rfl, tx534_⟩

-- fX11_tellValues_2
set_option maxHeartbeats 4000000 in
theorem kX11_tellValues_2 {G : GT} : ∀ (n : Nat) (a0 : Nat) (a1 : Int32) (h : sm_H), Wf G h → tG G a0 12 0 → 0 ≤ a1.toInt → a1.toInt ≤ 1200 → 1200 - a1.toInt < (n : Int) → kJ (RW [(1, 0), (5, 0), (7, 0), (21, 0)] G h (fun (r : Unit) (_ : sm_H) => True)) (fX11_tellValues_2 n a0 a1 h) := by
  have L0 : (0 : Int32).toInt = 0 := rfl
  have L1 : (1 : Int32).toInt = 1 := rfl
  have L2 : (2 : Int32).toInt = 2 := rfl
  intro n
  induction n with
  | zero => intro a0 a1 h Wh t_a0 p0_ p1_ m_; exfalso; omega
  | succ n ih =>
    intro a0 a1 h Wh t_a0 p0_ p1_ m_
    unfold fX11_tellValues_2
    refine k_gR (r' := 0) Wh t_a0 (by decide) rfl rfl (fun x11_ e2_ tx11_ => ?_)
    refine k_gI Wh tx11_ (by decide) rfl (fun x23_ e4_ x23_l x23_u => ?_)
    refine k_le (fun c5_ => ?_) (fun c5_ => ?_)
    · skip
      exact k_rW Wh trivial
    · skip
      refine k_kR e2_ ?_
      refine k_obj Wh tx11_ (by decide) ?_
      refine k_cP (kX3_pairAt Wh tx11_) (fun x46_ qx46_ => ?_)
      rcases x46_ with _ | x46_s
      · rw [if_pos rfl]
        exact k_rW Wh trivial
      · rw [if_neg (by simp)]
        have tx46_s := qx46_ x46_s rfl
        refine k_gR (r' := 0) Wh tx46_s (by decide) rfl rfl (fun x67_ e8_ tx67_ => ?_)
        refine k_obj Wh t_a0 (by decide) ?_
        refine k_cP (kX11_valueFor Wh t_a0 tx67_) (fun x79_ qx79_ => ?_)
        obtain ⟨x79_s, rfl, tx79_s⟩ := qx79_
        refine k_kR e2_ ?_
        refine k_gI Wh tx11_ (by decide) rfl (fun x1010_ e11_ x1010_l x1010_u => ?_)
        refine k_if (fun c12_ => ?_) (fun c12_ => ?_)
        · skip
          refine k_obj Wh tx79_s (by decide) ?_
          refine k_cP (kX10_isMissing Wh tx79_s) (fun x1113_ qx1113_ => ?_)
          refine k_if (fun c14_ => ?_) (fun c14_ => ?_)
          · skip
            unfold fX11_tellValues_65
            refine k_gR (r' := 0) Wh t_a0 (by decide) rfl rfl (fun x115_ e16_ tx115_ => ?_)
            refine k_kR e8_ ?_
            refine k_obj Wh tx115_ (by decide) ?_
            refine k_cWW (kX6_tell Wh tx115_ tx67_ tx79_s) (by first | decide | exact fun _ q => q) (fun v17_ h18_ fh18_ qv17_ => ?_)
            have Wh18_ := fh18_.1
            first | refine k_add (by omega) (by omega) (fun x419_ x419_q => ?_) | refine k_let (fun x419_ => ?_)
            exact ih _ _ _ Wh18_ t_a0 (by first | omega | assumption | decide) (by first | omega | assumption | decide) (by omega)
          · skip
            refine k_gR (r' := 0) Wh t_a0 (by decide) rfl rfl (fun x1320_ e21_ tx1320_ => ?_)
            refine k_obj Wh tx1320_ (by decide) ?_
            refine k_cWW (kX6_fail Wh tx1320_) (by first | decide | exact fun _ q => q) (fun v22_ h23_ fh23_ qv22_ => ?_)
            have Wh23_ := fh23_.1
            exact k_rW Wh23_ trivial
        · skip
          unfold fX11_tellValues_65
          refine k_gR (r' := 0) Wh t_a0 (by decide) rfl rfl (fun x124_ e25_ tx124_ => ?_)
          refine k_kR e8_ ?_
          refine k_obj Wh tx124_ (by decide) ?_
          refine k_cWW (kX6_tell Wh tx124_ tx67_ tx79_s) (by first | decide | exact fun _ q => q) (fun v26_ h27_ fh27_ qv26_ => ?_)
          have Wh27_ := fh27_.1
          first | refine k_add (by omega) (by omega) (fun x428_ x428_q => ?_) | refine k_let (fun x428_ => ?_)
          exact ih _ _ _ Wh27_ t_a0 (by first | omega | assumption | decide) (by first | omega | assumption | decide) (by omega)
