-- fX9_isTaken
set_option maxHeartbeats 4000000 in
theorem kX9_isTaken {G : GT} {r_a1 : Nat} {a0 : Nat} {a1 : Nat} {h : sm_H} (Wh : Wf G h) (t_a0 : tG G a0 10 0) (t_a1 : tG G a1 1 r_a1) : kJ (RP G h (fun r : Int32 => r = 0 ∨ r = 1)) (fX9_isTaken a0 (some a1) h) := by
  have L0 : (0 : Int32).toInt = 0 := rfl
  have L1 : (1 : Int32).toInt = 1 := rfl
  unfold fX9_isTaken
  exact k_PP (kX9_isTaken_2 _ _ _ _ _ Wh t_a0 t_a1 (by first | omega | assumption | decide) (by first | omega | assumption | decide) (by simp only [sm_fuel_eq]; omega)) (fun _ q => q)

-- fX9_putInOrder_4
set_option maxHeartbeats 4000000 in
theorem kX9_putInOrder_4 {G : GT} : ∀ (n : Nat) (a0 : Nat) (a2 : Nat) (a3 : Int32) (h : sm_H), Wf G h → tG G a0 10 0 → tG G a2 9 0 → 0 ≤ a3.toInt → a3.toInt ≤ 1200 → 1200 - a3.toInt < (n : Int) → kJ (RW [(24, 0)] G h (fun (r : Unit) (_ : sm_H) => True)) (fX9_putInOrder_4 n a0 (some a2) a3 h) := by
  have L0 : (0 : Int32).toInt = 0 := rfl
  have L1 : (1 : Int32).toInt = 1 := rfl
  intro n
  induction n with
  | zero => intro a0 a2 a3 h Wh t_a0 t_a2 p0_ p1_ m_; exfalso; omega
  | succ n ih =>
    intro a0 a2 a3 h Wh t_a0 t_a2 p0_ p1_ m_
    unfold fX9_putInOrder_4
    refine k_gI Wh t_a0 (by decide) rfl (fun x11_ e2_ x11_l x11_u => ?_)
    refine k_le (fun c3_ => ?_) (fun c3_ => ?_)
    · skip
      exact k_rW Wh trivial
    · skip
      refine k_gR (r' := 0) Wh t_a0 (by decide) rfl rfl (fun x24_ e5_ tx24_ => ?_)
      refine k_len (B := 40) Wh tx24_ rfl (fun x36_ x36_l x36_u => ?_)
      refine k_le (fun c7_ => ?_) (fun c7_ => ?_)
      · skip
        exact k_rW Wh trivial
      · skip
        refine k_kR e5_ ?_
        refine k_aR (c' := 9) Wh tx24_ (by decide) rfl (by first | omega | decide) (by first | omega | decide) (fun x58_ tx58_ => ?_)
        rcases x58_ with _ | x58_s
        · rw [if_pos rfl]
          unfold fX9_putInOrder_49
          refine k_kR e5_ ?_
          refine k_W tx24_ (by first | decide | simp) (w_sR Wh tx24_ (by decide) (by decide) rfl (by first | omega | decide) (by first | omega | decide) (tN_s t_a2)) (fun h9_ oh9_ _ => ?_)
          have Wh9_ := oh9_.1
          rw [if_pos rfl]
          exact k_rW Wh9_ trivial
        · rw [if_neg (by simp)]
          have tx58_s := tx58_ x58_s rfl
          refine k_gR (r' := 0) Wh t_a2 (by decide) rfl rfl (fun x610_ e11_ tx610_ => ?_)
          refine k_gR (r' := 0) Wh tx58_s (by decide) rfl rfl (fun x712_ e13_ tx712_ => ?_)
          refine k_obj Wh tx610_ (by decide) ?_
          refine k_cP (kX0_isLess Wh tx610_ tx712_) (fun x814_ qx814_ => ?_)
          refine k_if (fun c15_ => ?_) (fun c15_ => ?_)
          · skip
            rw [if_neg (by simp)]
            first | refine k_add (by omega) (by omega) (fun x1016_ x1016_q => ?_) | refine k_let (fun x1016_ => ?_)
            exact ih _ _ _ _ Wh t_a0 t_a2 (by first | omega | assumption | decide) (by first | omega | assumption | decide) (by omega)
          · skip
            unfold fX9_putInOrder_49
            refine k_kR e5_ ?_
            refine k_W tx24_ (by first | decide | simp) (w_sR Wh tx24_ (by decide) (by decide) rfl (by first | omega | decide) (by first | omega | decide) (tN_s t_a2)) (fun h17_ oh17_ _ => ?_)
            have Wh17_ := oh17_.1
            rw [if_neg (by simp)]
            first | refine k_add (by omega) (by omega) (fun x318_ x318_q => ?_) | refine k_let (fun x318_ => ?_)
            exact ih _ _ _ _ Wh17_ t_a0 tx58_s (by first | omega | assumption | decide) (by first | omega | assumption | decide) (by omega)

-- fX9_putInOrder
set_option maxHeartbeats 4000000 in
theorem kX9_putInOrder {G : GT} {a0 : Nat} {a1 : Nat} {h : sm_H} (Wh : Wf G h) (t_a0 : tG G a0 10 0) (t_a1 : tG G a1 9 0) : kJ (RW [(24, 0)] G h (fun (r : Unit) (_ : sm_H) => True)) (fX9_putInOrder a0 (some a1) h) := by
  have L0 : (0 : Int32).toInt = 0 := rfl
  have L1 : (1 : Int32).toInt = 1 := rfl
  unfold fX9_putInOrder
  exact k_WW (kX9_putInOrder_4 _ _ _ _ _ Wh t_a0 t_a1 (by first | omega | assumption | decide) (by first | omega | assumption | decide) (by simp only [sm_fuel_eq]; omega)) (by first | decide | exact fun _ q => q) (fun _ _ _ q => q)

-- fX9_addThing
set_option maxHeartbeats 4000000 in
theorem kX9_addThing {G : GT} {a0 : Nat} {a1 : Nat} {h : sm_H} (Wh : Wf G h) (t_a0 : tG G a0 10 0) (t_a1 : tG G a1 9 0) : kJ (RW [(10, 0), (24, 0)] G h (fun (r : Int32) (_ : sm_H) => True)) (fX9_addThing a0 (some a1) h) := by
  have Lm4 : (-4 : Int32).toInt = -4 := rfl
  have L0 : (0 : Int32).toInt = 0 := rfl
  have L1 : (1 : Int32).toInt = 1 := rfl
  unfold fX9_addThing
  refine k_gI Wh t_a0 (by decide) rfl (fun x11_ e2_ x11_l x11_u => ?_)
  refine k_lt (fun c3_ => ?_) (fun c3_ => ?_)
  · skip
    exact k_rW Wh trivial
  · skip
    refine k_kI e2_ ?_
    refine k_gR (r' := 0) Wh t_a0 (by decide) rfl rfl (fun x34_ e5_ tx34_ => ?_)
    refine k_len (B := 40) Wh tx34_ rfl (fun x46_ x46_l x46_u => ?_)
    refine k_lt (fun c7_ => ?_) (fun c7_ => ?_)
    · skip
      refine k_kR e5_ ?_
      refine k_kI e2_ ?_
      refine k_W tx34_ (by first | decide | simp) (w_sR Wh tx34_ (by decide) (by decide) rfl (by first | omega | decide) (by first | omega | decide) (tN_s t_a1)) (fun h8_ oh8_ _ => ?_)
      have Wh8_ := oh8_.1
      have e9_ := kg_fr (oh8_.2.2.2 _ (tg_ne t_a0 tx34_ (by simp))) e2_
      refine k_kI e9_ ?_
      refine k_W t_a0 (by first | decide | simp) (w_putI Wh8_ t_a0 (by decide) rfl (by first | omega | (rw [i_add1 (by omega)]; omega) | decide) (by first | omega | (rw [i_add1 (by omega)]; omega) | decide)) (fun h10_ oh10_ xh10_ => ?_)
      have Wh10_ := oh10_.1
      have e11_ := (xh10_ 3).trans (if_pos rfl)
      refine k_obj Wh10_ t_a0 (by decide) ?_
      refine k_cWW (kX9_putInOrder Wh10_ t_a0 t_a1) (by first | decide | exact fun _ q => q) (fun v12_ h13_ fh13_ qv12_ => ?_)
      have Wh13_ := fh13_.1
      have e14_ := kg_fr (fh13_.2.2.2 _ (by rw [t_a0.1, t_a0.2]; first | decide | simp)) e11_
      refine k_kI e14_ ?_
      exact k_rW Wh13_ trivial
    · skip
      exact k_rW Wh trivial

-- fX9_addTable
set_option maxHeartbeats 4000000 in
theorem kX9_addTable {G : GT} {a0 : Nat} {a1 : Nat} {h : sm_H} (Wh : Wf G h) (t_a0 : tG G a0 10 0) (t_a1 : tG G a1 8 0) : kJ (RW [(10, 0), (25, 0)] G h (fun (r : Int32) (_ : sm_H) => True)) (fX9_addTable a0 (some a1) h) := by
  have Lm4 : (-4 : Int32).toInt = -4 := rfl
  have L0 : (0 : Int32).toInt = 0 := rfl
  have L1 : (1 : Int32).toInt = 1 := rfl
  unfold fX9_addTable
  refine k_gI Wh t_a0 (by decide) rfl (fun x11_ e2_ x11_l x11_u => ?_)
  refine k_lt (fun c3_ => ?_) (fun c3_ => ?_)
  · skip
    exact k_rW Wh trivial
  · skip
    refine k_kI e2_ ?_
    refine k_gR (r' := 0) Wh t_a0 (by decide) rfl rfl (fun x34_ e5_ tx34_ => ?_)
    refine k_len (B := 4) Wh tx34_ rfl (fun x46_ x46_l x46_u => ?_)
    refine k_lt (fun c7_ => ?_) (fun c7_ => ?_)
    · skip
      refine k_kR e5_ ?_
      refine k_kI e2_ ?_
      refine k_W tx34_ (by first | decide | simp) (w_sR Wh tx34_ (by decide) (by decide) rfl (by first | omega | decide) (by first | omega | decide) (tN_s t_a1)) (fun h8_ oh8_ _ => ?_)
      have Wh8_ := oh8_.1
      have e9_ := kg_fr (oh8_.2.2.2 _ (tg_ne t_a0 tx34_ (by simp))) e2_
      refine k_kI e9_ ?_
      refine k_W t_a0 (by first | decide | simp) (w_putI Wh8_ t_a0 (by decide) rfl (by first | omega | (rw [i_add1 (by omega)]; omega) | decide) (by first | omega | (rw [i_add1 (by omega)]; omega) | decide)) (fun h10_ oh10_ xh10_ => ?_)
      have Wh10_ := oh10_.1
      have e11_ := (xh10_ 4).trans (if_pos rfl)
      refine k_kI e11_ ?_
      exact k_rW Wh10_ trivial
    · skip
      exact k_rW Wh trivial

-- fX10_isOfParts
set_option maxHeartbeats 4000000 in
theorem kX10_isOfParts {G : GT} {a0 : Nat} {h : sm_H} (Wh : Wf G h) (t_a0 : tG G a0 11 0) : kJ (RP G h (fun r : Int32 => r = 0 ∨ r = 1)) (fX10_isOfParts a0 h) := by
  have L0 : (0 : Int32).toInt = 0 := rfl
  have L1 : (1 : Int32).toInt = 1 := rfl
  have L4 : (4 : Int32).toInt = 4 := rfl
  have L6 : (6 : Int32).toInt = 6 := rfl
  unfold fX10_isOfParts
  refine k_gI Wh t_a0 (by decide) rfl (fun x11_ e2_ x11_l x11_u => ?_)
  refine k_if (fun c3_ => ?_) (fun c3_ => ?_)
  · skip
    exact k_rP (by first | assumption | decide)
  · skip
    refine k_kI e2_ ?_
    refine k_if (fun c4_ => ?_) (fun c4_ => ?_)
    · skip
      exact k_rP (by first | assumption | decide)
    · skip
      exact k_rP (by first | assumption | decide)

-- fX10_isMissing
set_option maxHeartbeats 4000000 in
theorem kX10_isMissing {G : GT} {a0 : Nat} {h : sm_H} (Wh : Wf G h) (t_a0 : tG G a0 11 0) : kJ (RP G h (fun r : Int32 => r = 0 ∨ r = 1)) (fX10_isMissing a0 h) := by
  have L0 : (0 : Int32).toInt = 0 := rfl
  have L1 : (1 : Int32).toInt = 1 := rfl
  have L128 : (128 : Int32).toInt = 128 := rfl
  have L129 : (129 : Int32).toInt = 129 := rfl
  have L130 : (130 : Int32).toInt = 130 := rfl
  unfold fX10_isMissing
  refine k_gI Wh t_a0 (by decide) rfl (fun x11_ e2_ x11_l x11_u => ?_)
  refine k_if (fun c3_ => ?_) (fun c3_ => ?_)
  · skip
    exact k_rP (by first | assumption | decide)
  · skip
    refine k_kI e2_ ?_
    refine k_if (fun c4_ => ?_) (fun c4_ => ?_)
    · skip
      exact k_rP (by first | assumption | decide)
    · skip
      refine k_kI e2_ ?_
      refine k_if (fun c5_ => ?_) (fun c5_ => ?_)
      · skip
        exact k_rP (by first | assumption | decide)
      · skip
        exact k_rP (by first | assumption | decide)

-- fX11_feed_49
set_option maxHeartbeats 4000000 in
theorem kX11_feed_49 {G : GT} : ∀ (n : Nat) (a0 : Nat) (a1 : Int64) (a4 : Int32) (h : sm_H), Wf G h → tG G a0 12 0 → -1 ≤ a4.toInt → a4.toInt ≤ 8 → a4.toInt + 1 < (n : Int) → kJ (RW [(1, 1), (21, 1)] G h (fun (r : Int32) (_ : sm_H) => True)) (fX11_feed_49 n a0 a1 a4 h) := by
  have Lm1 : (-1 : Int32).toInt = -1 := rfl
  have L0 : (0 : Int32).toInt = 0 := rfl
  have L1 : (1 : Int32).toInt = 1 := rfl
  have L8 : (8 : Int32).toInt = 8 := rfl
  intro n
  induction n with
  | zero => intro a0 a1 a4 h Wh t_a0 p0_ p1_ m_; exfalso; omega
  | succ n ih =>
    intro a0 a1 a4 h Wh t_a0 p0_ p1_ m_
    unfold fX11_feed_49
    refine k_lt (fun c1_ => ?_) (fun c1_ => ?_)
    · skip
      refine k_gR (r' := 1) Wh t_a0 (by decide) rfl rfl (fun x12_ e3_ tx12_ => ?_)
      refine k_obj Wh tx12_ (by decide) ?_
      refine k_cP (kX0_size Wh tx12_) (fun x24_ qx24_ => ?_)
      have x24_l := qx24_.1
      have x24_u := qx24_.2
      exact k_rW Wh trivial
    · skip
      refine k_gR (r' := 1) Wh t_a0 (by decide) rfl rfl (fun x55_ e6_ tx55_ => ?_)
      refine k_obj Wh tx55_ (by decide) ?_
      refine k_cWW (kX0_add Wh tx55_) (by first | decide | exact fun _ q => q) (fun x67_ h8_ fh8_ qx67_ => ?_)
      have Wh8_ := fh8_.1
      first | refine k_add (by omega) (by omega) (fun x89_ x89_q => ?_) | refine k_let (fun x89_ => ?_)
      exact ih _ _ _ _ Wh8_ t_a0 (by first | omega | assumption | decide) (by first | omega | assumption | decide) (by omega)

-- fX11_feed
set_option maxHeartbeats 4000000 in
theorem kX11_feed {G : GT} {a0 : Nat} {a1 : Int64} {a3 : Int32} {h : sm_H} (Wh : Wf G h) (t_a0 : tG G a0 12 0) : kJ (RW [(1, 1), (21, 1)] G h (fun (r : Int32) (_ : sm_H) => True)) (fX11_feed a0 a1 a3 h) := by
  have Lm4 : (-4 : Int32).toInt = -4 := rfl
  have Lm2 : (-2 : Int32).toInt = -2 := rfl
  have L0 : (0 : Int32).toInt = 0 := rfl
  have L1 : (1 : Int32).toInt = 1 := rfl
  have L8 : (8 : Int32).toInt = 8 := rfl
  have L1200 : (1200 : Int32).toInt = 1200 := rfl
  unfold fX11_feed
  refine k_lt (fun c1_ => ?_) (fun c1_ => ?_)
  · skip
    exact k_rW Wh trivial
  · skip
    refine k_le (fun c2_ => ?_) (fun c2_ => ?_)
    · skip
      refine k_if (fun c3_ => ?_) (fun c3_ => ?_)
      · skip
        refine k_gR (r' := 1) Wh t_a0 (by decide) rfl rfl (fun x64_ e5_ tx64_ => ?_)
        refine k_obj Wh tx64_ (by decide) ?_
        refine k_cWW (kX0_clear Wh tx64_) (by first | decide | exact fun _ q => q) (fun v6_ h7_ fh7_ qv6_ => ?_)
        have Wh7_ := fh7_.1
        exact k_rW Wh7_ trivial
      · skip
        refine k_gR (r' := 1) Wh t_a0 (by decide) rfl rfl (fun x18_ e9_ tx18_ => ?_)
        refine k_obj Wh tx18_ (by decide) ?_
        refine k_cP (kX0_size Wh tx18_) (fun x210_ qx210_ => ?_)
        have x210_l := qx210_.1
        have x210_u := qx210_.2
        refine k_le (fun c11_ => ?_) (fun c11_ => ?_)
        · skip
          first | refine k_sub (by omega) (by omega) (fun x412_ x412_q => ?_) | refine k_let (fun x412_ => ?_)
          exact k_WW (kX11_feed_49 _ _ _ _ _ Wh t_a0 (by first | omega | assumption | decide) (by first | omega | assumption | decide) (by simp only [sm_fuel_eq]; omega)) (by first | decide | exact fun _ q => q) (fun _ _ _ q => q)
        · skip
          exact k_rW Wh trivial
    · skip
      exact k_rW Wh trivial

-- fX11_mostNumberAt
set_option maxHeartbeats 4000000 in
theorem kX11_mostNumberAt {G : GT} {a0 : Int32} {h : sm_H} (Wh : Wf G h) : kJ (RP G h (fun r : Int64 => True)) (fX11_mostNumberAt a0 h) := by
  have L0 : (0 : Int32).toInt = 0 := rfl
  have L1 : (1 : Int32).toInt = 1 := rfl
  unfold fX11_mostNumberAt
  refine k_if (fun c1_ => ?_) (fun c1_ => ?_)
  · skip
    exact k_rP trivial
  · skip
    refine k_if (fun c2_ => ?_) (fun c2_ => ?_)
    · skip
      exact k_rP trivial
    · skip
      exact k_rP trivial

-- fX11_number
set_option maxHeartbeats 4000000 in
theorem kX11_number {G : GT} {a0 : Nat} {a1 : Int64} {h : sm_H} (Wh : Wf G h) (t_a0 : tG G a0 12 0) : kJ (RW [(1, 2), (21, 2)] G h (fun (r : Int32) (_ : sm_H) => True)) (fX11_number a0 a1 h) := by
  have Lm4 : (-4 : Int32).toInt = -4 := rfl
  have Lm2 : (-2 : Int32).toInt = -2 := rfl
  have L0 : (0 : Int32).toInt = 0 := rfl
  have L1 : (1 : Int32).toInt = 1 := rfl
  unfold fX11_number
  refine k_if (fun c1_ => ?_) (fun c1_ => ?_)
  · skip
    refine k_gR (r' := 2) Wh t_a0 (by decide) rfl rfl (fun x152_ e3_ tx152_ => ?_)
    refine k_obj Wh tx152_ (by decide) ?_
    refine k_cWW (kX0_clear Wh tx152_) (by first | decide | exact fun _ q => q) (fun v4_ h5_ fh5_ qv4_ => ?_)
    have Wh5_ := fh5_.1
    exact k_rW Wh5_ trivial
  · skip
    refine k_l1 (fun c6_ => ?_) (fun c6_ => ?_)
    · skip
      exact k_rW Wh trivial
    · skip
      refine k_gR (r' := 2) Wh t_a0 (by decide) rfl rfl (fun x17_ e8_ tx17_ => ?_)
      refine k_obj Wh tx17_ (by decide) ?_
      refine k_cP (kX0_size Wh tx17_) (fun x29_ qx29_ => ?_)
      have x29_l := qx29_.1
      have x29_u := qx29_.2
      refine k_cP (kX11_mostNumberAt Wh ) (fun x410_ qx410_ => ?_)
      refine k_l2 (fun c11_ => ?_) (fun c11_ => ?_)
      · skip
        refine k_kR e8_ ?_
        refine k_obj Wh tx17_ (by decide) ?_
        refine k_cWW (kX0_add Wh tx17_) (by first | decide | exact fun _ q => q) (fun x712_ h13_ fh13_ qx712_ => ?_)
        have Wh13_ := fh13_.1
        have e14_ := kg_fr (fh13_.2.2.2 _ (by rw [t_a0.1, t_a0.2]; first | decide | simp)) e8_
        refine k_if (fun c15_ => ?_) (fun c15_ => ?_)
        · skip
          exact k_rW Wh13_ trivial
        · skip
          refine k_kR e14_ ?_
          refine k_obj Wh13_ tx17_ (by decide) ?_
          refine k_cP (kX0_size Wh13_ tx17_) (fun x1016_ qx1016_ => ?_)
          have x1016_l := qx1016_.1
          have x1016_u := qx1016_.2
          exact k_rW Wh13_ trivial
      · skip
        exact k_rW Wh trivial

-- fX11_isAccess
set_option maxHeartbeats 4000000 in
theorem kX11_isAccess {G : GT} {a0 : Int32} {h : sm_H} (Wh : Wf G h) : kJ (RP G h (fun r : Int32 => r = 0 ∨ r = 1)) (fX11_isAccess a0 h) := by
  have L0 : (0 : Int32).toInt = 0 := rfl
  have L1 : (1 : Int32).toInt = 1 := rfl
  have L2 : (2 : Int32).toInt = 2 := rfl
  unfold fX11_isAccess
  refine k_lt (fun c1_ => ?_) (fun c1_ => ?_)
  · skip
    exact k_rP (by first | assumption | decide)
  · skip
    refine k_lt (fun c2_ => ?_) (fun c2_ => ?_)
    · skip
      exact k_rP (by first | assumption | decide)
    · skip
      exact k_rP (by first | assumption | decide)

-- fX11_isNameAtHand
set_option maxHeartbeats 4000000 in
theorem kX11_isNameAtHand {G : GT} {a0 : Nat} {a1 : Int32} {h : sm_H} (Wh : Wf G h) (t_a0 : tG G a0 12 0) : kJ (RP G h (fun r : Int32 => r = 0 ∨ r = 1)) (fX11_isNameAtHand a0 a1 h) := by
  have L0 : (0 : Int32).toInt = 0 := rfl
  have L1 : (1 : Int32).toInt = 1 := rfl
  have L2 : (2 : Int32).toInt = 2 := rfl
  unfold fX11_isNameAtHand
  refine k_gR (r' := 2) Wh t_a0 (by decide) rfl rfl (fun x11_ e2_ tx11_ => ?_)
  refine k_obj Wh tx11_ (by decide) ?_
  refine k_cP (kX0_size Wh tx11_) (fun x23_ qx23_ => ?_)
  have x23_l := qx23_.1
  have x23_u := qx23_.2
  refine k_lt (fun c4_ => ?_) (fun c4_ => ?_)
  · skip
    exact k_rP (by first | assumption | decide)
  · skip
    refine k_kR e2_ ?_
    refine k_obj Wh tx11_ (by decide) ?_
    refine k_cP (kX0_size Wh tx11_) (fun x55_ qx55_ => ?_)
    have x55_l := qx55_.1
    have x55_u := qx55_.2
    refine k_lt (fun c6_ => ?_) (fun c6_ => ?_)
    · skip
      exact k_rP (by first | assumption | decide)
    · skip
      exact k_rP (by first | assumption | decide)

-- fX11_columnRefusal
set_option maxHeartbeats 4000000 in
theorem kX11_columnRefusal {G : GT} {a0 : Nat} {a1 : Nat} {a2 : Int32} {h : sm_H} (Wh : Wf G h) (t_a0 : tG G a0 12 0) (t_a1 : tG G a1 8 0) : kJ (RP G h (fun r : Int32 => True)) (fX11_columnRefusal a0 (some a1) a2 h) := by
  have Lm4 : (-4 : Int32).toInt = -4 := rfl
  have Lm3 : (-3 : Int32).toInt = -3 := rfl
  have L0 : (0 : Int32).toInt = 0 := rfl
  have L1 : (1 : Int32).toInt = 1 := rfl
  have L6 : (6 : Int32).toInt = 6 := rfl
  have L40 : (40 : Int32).toInt = 40 := rfl
  unfold fX11_columnRefusal
  refine k_obj Wh t_a1 (by decide) ?_
  refine k_cP (kX7_hasColumn Wh t_a1) (fun x11_ qx11_ => ?_)
  refine k_if (fun c2_ => ?_) (fun c2_ => ?_)
  · skip
    refine k_obj Wh t_a1 (by decide) ?_
    refine k_cP (kX7_rowCount Wh t_a1) (fun x33_ qx33_ => ?_)
    refine k_le (fun c4_ => ?_) (fun c4_ => ?_)
    · skip
      refine k_obj Wh t_a1 (by decide) ?_
      refine k_cP (kX7_columnCount Wh t_a1) (fun x55_ qx55_ => ?_)
      refine k_le (fun c6_ => ?_) (fun c6_ => ?_)
      · skip
        unfold fX11_columnRefusal_44
        rw [if_neg (by decide)]
        exact k_rP trivial
      · skip
        refine k_gR (r' := 0) Wh t_a0 (by decide) rfl rfl (fun x77_ e8_ tx77_ => ?_)
        refine k_obj Wh tx77_ (by decide) ?_
        refine k_cP (kX9_thingCount Wh tx77_) (fun x89_ qx89_ => ?_)
        have x89_l := qx89_.1
        have x89_u := qx89_.2
        refine k_lt (fun c10_ => ?_) (fun c10_ => ?_)
        · skip
          unfold fX11_columnRefusal_44
          rw [if_pos (by decide)]
          exact k_rP trivial
        · skip
          unfold fX11_columnRefusal_44
          rw [if_neg (by decide)]
          exact k_rP trivial
    · skip
      exact k_rP trivial
  · skip
    exact k_rP trivial

-- fX11_columnName
set_option maxHeartbeats 4000000 in
theorem kX11_columnName {G : GT} {a0 : Nat} {a1 : Nat} {a2 : Int32} {h : sm_H} (Wh : Wf G h) (t_a0 : tG G a0 12 0) (t_a1 : tG G a1 8 0) : kJ (RW [(1, 0), (21, 0)] G h (fun (r : Option Nat) (_ : sm_H) => ∃ b, r = some b ∧ tG G b 1 0)) (fX11_columnName a0 (some a1) a2 h) := by
  have L0 : (0 : Int32).toInt = 0 := rfl
  have L1 : (1 : Int32).toInt = 1 := rfl
  unfold fX11_columnName
  refine k_gR (r' := 0) Wh t_a0 (by decide) rfl rfl (fun x11_ e2_ tx11_ => ?_)
  refine k_gR (r' := 0) Wh t_a1 (by decide) rfl rfl (fun x23_ e4_ tx23_ => ?_)
  refine k_obj Wh tx11_ (by decide) ?_
  refine k_cWW (kX0_copy Wh tx11_ tx23_) (by first | decide | exact fun _ q => q) (fun v5_ h6_ fh6_ qv5_ => ?_)
  have Wh6_ := fh6_.1
  have e7_ := kg_fr (fh6_.2.2.2 _ (by rw [t_a0.1, t_a0.2]; first | decide | simp)) e2_
  refine k_kR e7_ ?_
  refine k_obj Wh6_ tx11_ (by decide) ?_
  refine k_cWW (kX0_add Wh6_ tx11_) (by first | decide | exact fun _ q => q) (fun x58_ h9_ fh9_ qx58_ => ?_)
  have Wh9_ := fh9_.1
  have e10_ := kg_fr (fh9_.2.2.2 _ (by rw [t_a0.1, t_a0.2]; first | decide | simp)) e7_
  refine k_kR e10_ ?_
  exact k_rW Wh9_ ⟨_, rfl, tx11_⟩

-- fX11_row
set_option maxHeartbeats 4000000 in
theorem kX11_row {G : GT} {a0 : Nat} {a1 : Int32} {a2 : Int32} {a3 : Int32} {h : sm_H} (Wh : Wf G h) (t_a0 : tG G a0 12 0) (p0_ : a3 = 0 ∨ a3 = 1) : kJ (RW [(1, 0), (8, 0), (11, 0), (20, 0), (21, 0)] G h (fun (r : Int32) (_ : sm_H) => True)) (fX11_row a0 a1 a2 a3 h) := by
  have Lm4 : (-4 : Int32).toInt = -4 := rfl
  have Lm2 : (-2 : Int32).toInt = -2 := rfl
  have Lm1 : (-1 : Int32).toInt = -1 := rfl
  have L0 : (0 : Int32).toInt = 0 := rfl
  have L1 : (1 : Int32).toInt = 1 := rfl
  unfold fX11_row
  refine k_gR (r' := 0) Wh t_a0 (by decide) rfl rfl (fun x11_ e2_ tx11_ => ?_)
  refine k_obj Wh tx11_ (by decide) ?_
  refine k_cP (kX9_tableAt Wh tx11_) (fun x23_ qx23_ => ?_)
  rcases x23_ with _ | x23_s
  · rw [if_pos rfl]
    exact k_rW Wh trivial
  · rw [if_neg (by simp)]
    have tx23_s := qx23_ x23_s rfl
    refine k_le (fun c4_ => ?_) (fun c4_ => ?_)
    · skip
      refine k_obj Wh tx23_s (by decide) ?_
      refine k_cP (kX7_slotOf Wh tx23_s) (fun x45_ qx45_ => ?_)
      refine k_lt (fun c6_ => ?_) (fun c6_ => ?_)
      · skip
        unfold fX11_row_40
        refine k_if (fun c7_ => ?_) (fun c7_ => ?_)
        · skip
          exact k_rW Wh trivial
        · skip
          refine k_if (fun c8_ => ?_) (fun c8_ => ?_)
          · skip
            refine k_obj Wh tx23_s (by decide) ?_
            refine k_cWW (kX7_takeAway Wh tx23_s) (by first | decide | exact fun _ q => q) (fun v9_ h10_ fh10_ qv9_ => ?_)
            have Wh10_ := fh10_.1
            exact k_rW Wh10_ trivial
          · skip
            refine k_obj Wh tx23_s (by decide) ?_
            refine k_cWW (kX7_make Wh tx23_s) (by first | decide | exact fun _ q => q) (fun x111_ h12_ fh12_ qx111_ => ?_)
            have Wh12_ := fh12_.1
            refine k_if (fun c13_ => ?_) (fun c13_ => ?_)
            · skip
              exact k_rW Wh12_ trivial
            · skip
              exact k_rW Wh12_ trivial
      · skip
        unfold fX11_row_40
        refine k_if (fun c14_ => ?_) (fun c14_ => ?_)
        · skip
          exact k_rW Wh trivial
        · skip
          refine k_if (fun c15_ => ?_) (fun c15_ => ?_)
          · skip
            refine k_obj Wh tx23_s (by decide) ?_
            refine k_cWW (kX7_takeAway Wh tx23_s) (by first | decide | exact fun _ q => q) (fun v16_ h17_ fh17_ qv16_ => ?_)
            have Wh17_ := fh17_.1
            exact k_rW Wh17_ trivial
          · skip
            refine k_obj Wh tx23_s (by decide) ?_
            refine k_cWW (kX7_make Wh tx23_s) (by first | decide | exact fun _ q => q) (fun x118_ h19_ fh19_ qx118_ => ?_)
            have Wh19_ := fh19_.1
            refine k_if (fun c20_ => ?_) (fun c20_ => ?_)
            · skip
              exact k_rW Wh19_ trivial
            · skip
              exact k_rW Wh19_ trivial
    · skip
      exact k_rW Wh trivial
