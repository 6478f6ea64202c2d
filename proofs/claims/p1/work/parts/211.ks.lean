-- fX8_takesNumber
set_option maxHeartbeats 4000000 in
theorem kX8_takesNumber {G : GT} {a0 : Nat} {a1 : Nat} {h : sm_H} (Wh : Wf G h) (t_a0 : tG G a0 9 0) (t_a1 : tG G a1 11 0) : kJ (RP G h (fun r : Int32 => r = 0 ∨ r = 1)) (fX8_takesNumber a0 (some a1) h) := by
  have L0 : (0 : Int32).toInt = 0 := rfl
  have L1 : (1 : Int32).toInt = 1 := rfl
  have L2 : (2 : Int32).toInt = 2 := rfl
  have L66 : (66 : Int32).toInt = 66 := rfl
  have L67 : (67 : Int32).toInt = 67 := rfl
  unfold fX8_takesNumber
  refine k_obj Wh t_a0 (by decide) ?_
  refine k_cP (kX8_isStatus Wh t_a0) (fun x11_ qx11_ => ?_)
  refine k_if (fun c2_ => ?_) (fun c2_ => ?_)
  · skip
    unfold fX8_takesNumber_20
    refine k_gI Wh t_a0 (by decide) rfl (fun x13_ e4_ x13_l x13_u => ?_)
    refine k_if (fun c5_ => ?_) (fun c5_ => ?_)
    · skip
      unfold fX8_takesNumber_51
      rw [if_neg (by decide)]
      refine k_gJ Wh t_a1 (by decide) rfl (fun x16_ e7_ => ?_)
      refine k_gJ Wh t_a0 (by decide) rfl (fun x28_ e9_ => ?_)
      refine k_l1 (fun c10_ => ?_) (fun c10_ => ?_)
      · skip
        exact k_rP (by first | assumption | decide)
      · skip
        refine k_kJ e7_ ?_
        refine k_gJ Wh t_a0 (by decide) rfl (fun x411_ e12_ => ?_)
        refine k_l3 (fun c13_ => ?_) (fun c13_ => ?_)
        · skip
          exact k_rP (by first | assumption | decide)
        · skip
          exact k_rP (by first | assumption | decide)
    · skip
      refine k_kI e4_ ?_
      refine k_if (fun c14_ => ?_) (fun c14_ => ?_)
      · skip
        unfold fX8_takesNumber_51
        rw [if_neg (by decide)]
        refine k_gJ Wh t_a1 (by decide) rfl (fun x115_ e16_ => ?_)
        refine k_gJ Wh t_a0 (by decide) rfl (fun x217_ e18_ => ?_)
        refine k_l1 (fun c19_ => ?_) (fun c19_ => ?_)
        · skip
          exact k_rP (by first | assumption | decide)
        · skip
          refine k_kJ e16_ ?_
          refine k_gJ Wh t_a0 (by decide) rfl (fun x420_ e21_ => ?_)
          refine k_l3 (fun c22_ => ?_) (fun c22_ => ?_)
          · skip
            exact k_rP (by first | assumption | decide)
          · skip
            exact k_rP (by first | assumption | decide)
      · skip
        refine k_kI e4_ ?_
        refine k_if (fun c23_ => ?_) (fun c23_ => ?_)
        · skip
          unfold fX8_takesNumber_51
          rw [if_neg (by decide)]
          refine k_gJ Wh t_a1 (by decide) rfl (fun x124_ e25_ => ?_)
          refine k_gJ Wh t_a0 (by decide) rfl (fun x226_ e27_ => ?_)
          refine k_l1 (fun c28_ => ?_) (fun c28_ => ?_)
          · skip
            exact k_rP (by first | assumption | decide)
          · skip
            refine k_kJ e25_ ?_
            refine k_gJ Wh t_a0 (by decide) rfl (fun x429_ e30_ => ?_)
            refine k_l3 (fun c31_ => ?_) (fun c31_ => ?_)
            · skip
              exact k_rP (by first | assumption | decide)
            · skip
              exact k_rP (by first | assumption | decide)
        · skip
          unfold fX8_takesNumber_51
          rw [if_pos (by decide)]
          exact k_rP (by first | assumption | decide)
  · skip
    obtain ⟨b32_, e33_⟩ := qx11_.2 c2_
    have tb32_ := kw_tab Wh t_a0 e33_
    refine k_gJ Wh t_a1 (by decide) rfl (fun x334_ e35_ => ?_)
    refine k_if (fun c36_ => ?_) (fun c36_ => ?_)
    · skip
      exact k_rP (by first | assumption | decide)
    · skip
      unfold fX8_takesNumber_20
      refine k_gI Wh t_a0 (by decide) rfl (fun x137_ e38_ x137_l x137_u => ?_)
      refine k_if (fun c39_ => ?_) (fun c39_ => ?_)
      · skip
        unfold fX8_takesNumber_51
        rw [if_neg (by decide)]
        refine k_kJ e35_ ?_
        refine k_gJ Wh t_a0 (by decide) rfl (fun x240_ e41_ => ?_)
        refine k_l1 (fun c42_ => ?_) (fun c42_ => ?_)
        · skip
          exact k_rP (by first | assumption | decide)
        · skip
          refine k_kJ e35_ ?_
          refine k_gJ Wh t_a0 (by decide) rfl (fun x443_ e44_ => ?_)
          refine k_l3 (fun c45_ => ?_) (fun c45_ => ?_)
          · skip
            exact k_rP (by first | assumption | decide)
          · skip
            exact k_rP (by first | assumption | decide)
      · skip
        refine k_kI e38_ ?_
        refine k_if (fun c46_ => ?_) (fun c46_ => ?_)
        · skip
          unfold fX8_takesNumber_51
          rw [if_neg (by decide)]
          refine k_kJ e35_ ?_
          refine k_gJ Wh t_a0 (by decide) rfl (fun x247_ e48_ => ?_)
          refine k_l1 (fun c49_ => ?_) (fun c49_ => ?_)
          · skip
            exact k_rP (by first | assumption | decide)
          · skip
            refine k_kJ e35_ ?_
            refine k_gJ Wh t_a0 (by decide) rfl (fun x450_ e51_ => ?_)
            refine k_l3 (fun c52_ => ?_) (fun c52_ => ?_)
            · skip
              exact k_rP (by first | assumption | decide)
            · skip
              exact k_rP (by first | assumption | decide)
        · skip
          refine k_kI e38_ ?_
          refine k_if (fun c53_ => ?_) (fun c53_ => ?_)
          · skip
            unfold fX8_takesNumber_51
            rw [if_neg (by decide)]
            refine k_kJ e35_ ?_
            refine k_gJ Wh t_a0 (by decide) rfl (fun x254_ e55_ => ?_)
            refine k_l1 (fun c56_ => ?_) (fun c56_ => ?_)
            · skip
              exact k_rP (by first | assumption | decide)
            · skip
              refine k_kJ e35_ ?_
              refine k_gJ Wh t_a0 (by decide) rfl (fun x457_ e58_ => ?_)
              refine k_l3 (fun c59_ => ?_) (fun c59_ => ?_)
              · skip
                exact k_rP (by first | assumption | decide)
              · skip
                exact k_rP (by first | assumption | decide)
          · skip
            unfold fX8_takesNumber_51
            rw [if_pos (by decide)]
            exact k_rP (by first | assumption | decide)

-- fX8_takesIndex
set_option maxHeartbeats 4000000 in
theorem kX8_takesIndex {G : GT} {r_a1 : Nat} {a0 : Nat} {a1 : Nat} {h : sm_H} (Wh : Wf G h) (t_a0 : tG G a0 9 0) (t_a1 : tG G a1 1 r_a1) : kJ (RP G h (fun r : Int32 => r = 0 ∨ r = 1)) (fX8_takesIndex a0 (some a1) h) := by
  have L0 : (0 : Int32).toInt = 0 := rfl
  have L1 : (1 : Int32).toInt = 1 := rfl
  unfold fX8_takesIndex
  refine k_obj Wh t_a1 (by decide) ?_
  refine k_cP (kX0_size Wh t_a1) (fun x11_ qx11_ => ?_)
  have x11_l := qx11_.1
  have x11_u := qx11_.2
  refine k_gR (r' := 0) Wh t_a0 (by decide) rfl rfl (fun x32_ e3_ tx32_ => ?_)
  refine k_obj Wh tx32_ (by decide) ?_
  refine k_cP (kX0_size Wh tx32_) (fun x44_ qx44_ => ?_)
  have x44_l := qx44_.1
  have x44_u := qx44_.2
  refine k_if (fun c5_ => ?_) (fun c5_ => ?_)
  · skip
    refine k_kR e3_ ?_
    refine k_obj Wh tx32_ (by decide) ?_
    refine k_cP (kX0_size Wh tx32_) (fun x76_ qx76_ => ?_)
    have x76_l := qx76_.1
    have x76_u := qx76_.2
    refine k_obj Wh t_a1 (by decide) ?_
    refine k_cP (kX0_at Wh t_a1) (fun x97_ qx97_ => ?_)
    refine k_gN (r' := 0) Wh t_a0 (by decide) rfl rfl (fun x118_ e9_ tx118_ => ?_)
    rcases x118_ with _ | x118_s
    · rw [if_pos rfl]
      refine k_if (fun c10_ => ?_) (fun c10_ => ?_)
      · skip
        exact k_rP (by first | assumption | decide)
      · skip
        exact k_rP (by first | assumption | decide)
    · rw [if_neg (by simp)]
      have tx118_s := tx118_ x118_s rfl
      refine k_l1 (fun c11_ => ?_) (fun c11_ => ?_)
      · skip
        exact k_rP (by first | assumption | decide)
      · skip
        refine k_l3 (fun c12_ => ?_) (fun c12_ => ?_)
        · skip
          exact k_rP (by first | assumption | decide)
        · skip
          exact k_rP (by first | assumption | decide)
  · skip
    exact k_rP (by first | assumption | decide)

-- fX7_slotHolding_2
set_option maxHeartbeats 4000000 in
theorem kX7_slotHolding_2 {G : GT} : ∀ (n : Nat) (a0 : Nat) (a1 : Int64) (a3 : Int32) (h : sm_H), Wf G h → tG G a0 8 0 → 0 ≤ a3.toInt → a3.toInt ≤ 1200 → 1200 - a3.toInt < (n : Int) → kJ (RP G h (fun r : Int32 => True)) (fX7_slotHolding_2 n a0 a1 a3 h) := by
  have Lm1 : (-1 : Int32).toInt = -1 := rfl
  have L0 : (0 : Int32).toInt = 0 := rfl
  have L1 : (1 : Int32).toInt = 1 := rfl
  intro n
  induction n with
  | zero => intro a0 a1 a3 h Wh t_a0 p0_ p1_ m_; exfalso; omega
  | succ n ih =>
    intro a0 a1 a3 h Wh t_a0 p0_ p1_ m_
    unfold fX7_slotHolding_2
    refine k_gR (r' := 0) Wh t_a0 (by decide) rfl rfl (fun x11_ e2_ tx11_ => ?_)
    refine k_len (B := 1200) Wh tx11_ rfl (fun x23_ x23_l x23_u => ?_)
    refine k_le (fun c4_ => ?_) (fun c4_ => ?_)
    · skip
      exact k_rP trivial
    · skip
      refine k_kR e2_ ?_
      refine k_aI Wh tx11_ (by decide) (by first | omega | decide) (by first | omega | decide) (fun x45_ => ?_)
      refine k_if (fun c6_ => ?_) (fun c6_ => ?_)
      · skip
        exact k_rP trivial
      · skip
        first | refine k_add (by omega) (by omega) (fun x57_ x57_q => ?_) | refine k_let (fun x57_ => ?_)
        exact ih _ _ _ _ Wh t_a0 (by first | omega | assumption | decide) (by first | omega | assumption | decide) (by omega)

-- fX7_slotHolding
set_option maxHeartbeats 4000000 in
theorem kX7_slotHolding {G : GT} {a0 : Nat} {a1 : Int64} {h : sm_H} (Wh : Wf G h) (t_a0 : tG G a0 8 0) : kJ (RP G h (fun r : Int32 => True)) (fX7_slotHolding a0 a1 h) := by
  have L0 : (0 : Int32).toInt = 0 := rfl
  have L1 : (1 : Int32).toInt = 1 := rfl
  unfold fX7_slotHolding
  exact k_PP (kX7_slotHolding_2 _ _ _ _ _ Wh t_a0 (by first | omega | assumption | decide) (by first | omega | assumption | decide) (by simp only [sm_fuel_eq]; omega)) (fun _ q => q)

-- fX7_slotOf
set_option maxHeartbeats 4000000 in
theorem kX7_slotOf {G : GT} {a0 : Nat} {a1 : Int64} {h : sm_H} (Wh : Wf G h) (t_a0 : tG G a0 8 0) : kJ (RP G h (fun r : Int32 => True)) (fX7_slotOf a0 a1 h) := by
  have Lm1 : (-1 : Int32).toInt = -1 := rfl
  have L0 : (0 : Int32).toInt = 0 := rfl
  have L1 : (1 : Int32).toInt = 1 := rfl
  unfold fX7_slotOf
  refine k_l4 (fun c1_ => ?_) (fun c1_ => ?_)
  · skip
    refine k_obj Wh t_a0 (by decide) ?_
    refine k_cP (kX7_slotHolding Wh t_a0) (fun x12_ qx12_ => ?_)
    exact k_rP trivial
  · skip
    exact k_rP trivial

-- fX1_indexMade
set_option maxHeartbeats 4000000 in
theorem kX1_indexMade {G : GT} {a0 : Option Nat} {a1 : Nat} {h : sm_H} (Wh : Wf G h) (t_a0 : tN G a0 5 0) (t_a1 : tG G a1 8 0) : kJ (RP G h (fun r : Int64 => True)) (fX1_indexMade a0 (some a1) h) := by
  have L0 : (0 : Int32).toInt = 0 := rfl
  have L1 : (1 : Int32).toInt = 1 := rfl
  have L2 : (2 : Int32).toInt = 2 := rfl
  unfold fX1_indexMade
  refine k_gN (r' := 0) Wh t_a1 (by decide) rfl rfl (fun x11_ e2_ tx11_ => ?_)
  rcases a0 with _ | a0s
  · rw [if_pos rfl]
    exact k_rP trivial
  · rw [if_neg (by simp)]
    have ta0s := t_a0 a0s rfl
    rcases x11_ with _ | x11_s
    · rw [if_pos rfl]
      exact k_rP trivial
    · rw [if_neg (by simp)]
      have tx11_s := tx11_ x11_s rfl
      refine k_gR (r' := 0) Wh ta0s (by decide) rfl rfl (fun x23_ e4_ tx23_ => ?_)
      refine k_obj Wh tx11_s (by decide) ?_
      refine k_cP (kX8_takesIndex Wh tx11_s tx23_) (fun x35_ qx35_ => ?_)
      refine k_if (fun c6_ => ?_) (fun c6_ => ?_)
      · skip
        exact k_rP trivial
      · skip
        refine k_gR (r' := 0) Wh ta0s (by decide) rfl rfl (fun x57_ e8_ tx57_ => ?_)
        refine k_gI Wh tx57_ (by decide) rfl (fun x69_ e10_ x69_l x69_u => ?_)
        refine k_if (fun c11_ => ?_) (fun c11_ => ?_)
        · skip
          refine k_kR e4_ ?_
          refine k_gR (r' := 0) Wh tx11_s (by decide) rfl rfl (fun x812_ e13_ tx812_ => ?_)
          refine k_obj Wh tx23_ (by decide) ?_
          refine k_cP (kX0_beginsWith Wh tx23_ tx812_) (fun x914_ qx914_ => ?_)
          refine k_if (fun c15_ => ?_) (fun c15_ => ?_)
          · skip
            exact k_rP trivial
          · skip
            refine k_kR e8_ ?_
            refine k_gJ Wh tx57_ (by decide) rfl (fun x1216_ e17_ => ?_)
            refine k_if (fun c18_ => ?_) (fun c18_ => ?_)
            · skip
              unfold fX1_indexMade_90
              rw [if_neg (by decide)]
              refine k_kR e4_ ?_
              refine k_kR e13_ ?_
              refine k_obj Wh tx812_ (by decide) ?_
              refine k_cP (kX0_size Wh tx812_) (fun x319_ qx319_ => ?_)
              have x319_l := qx319_.1
              have x319_u := qx319_.2
              refine k_obj Wh tx23_ (by decide) ?_
              refine k_cP (kX0_at Wh tx23_) (fun x520_ qx520_ => ?_)
              exact k_rP trivial
            · skip
              refine k_kR e8_ ?_
              refine k_kJ e17_ ?_
              refine k_if (fun c21_ => ?_) (fun c21_ => ?_)
              · skip
                unfold fX1_indexMade_90
                rw [if_neg (by decide)]
                refine k_kR e4_ ?_
                refine k_kR e13_ ?_
                refine k_obj Wh tx812_ (by decide) ?_
                refine k_cP (kX0_size Wh tx812_) (fun x322_ qx322_ => ?_)
                have x322_l := qx322_.1
                have x322_u := qx322_.2
                refine k_obj Wh tx23_ (by decide) ?_
                refine k_cP (kX0_at Wh tx23_) (fun x523_ qx523_ => ?_)
                exact k_rP trivial
              · skip
                unfold fX1_indexMade_90
                rw [if_pos (by decide)]
                exact k_rP trivial
        · skip
          exact k_rP trivial

-- fX1_isMade_3
set_option maxHeartbeats 4000000 in
theorem kX1_isMade_3 {G : GT} : ∀ (n : Nat) (a0 : Nat) (a1 : Nat) (a2 : Int64) (a4 : Int32) (a5 : Int32) (h : sm_H), Wf G h → tG G a0 2 0 → tG G a1 8 0 → 0 ≤ a5.toInt → a5.toInt ≤ 1200 → a4.toInt ≤ 1200 → 1200 - a5.toInt < (n : Int) → kJ (RP G h (fun r : Int32 => r = 0 ∨ r = 1)) (fX1_isMade_3 n a0 (some a1) a2 a4 a5 h) := by
  have L0 : (0 : Int32).toInt = 0 := rfl
  have L1 : (1 : Int32).toInt = 1 := rfl
  intro n
  induction n with
  | zero => intro a0 a1 a2 a4 a5 h Wh t_a0 t_a1 p0_ p1_ p2_ m_; exfalso; omega
  | succ n ih =>
    intro a0 a1 a2 a4 a5 h Wh t_a0 t_a1 p0_ p1_ p2_ m_
    unfold fX1_isMade_3
    refine k_le (fun c1_ => ?_) (fun c1_ => ?_)
    · skip
      exact k_rP (by first | assumption | decide)
    · skip
      refine k_gR (r' := 0) Wh t_a0 (by decide) rfl rfl (fun x12_ e3_ tx12_ => ?_)
      refine k_obj Wh tx12_ (by decide) ?_
      refine k_cP (kX3_pairAt Wh tx12_) (fun x24_ qx24_ => ?_)
      refine k_cP (kX1_indexMade Wh qx24_ t_a1) (fun x45_ qx45_ => ?_)
      refine k_if (fun c6_ => ?_) (fun c6_ => ?_)
      · skip
        exact k_rP (by first | assumption | decide)
      · skip
        first | refine k_add (by omega) (by omega) (fun x67_ x67_q => ?_) | refine k_let (fun x67_ => ?_)
        exact ih _ _ _ _ _ _ Wh t_a0 t_a1 (by first | omega | assumption | decide) (by first | omega | assumption | decide) (by first | omega | assumption | decide) (by omega)

-- fX1_isMade
set_option maxHeartbeats 4000000 in
theorem kX1_isMade {G : GT} {a0 : Nat} {a1 : Nat} {a2 : Int64} {a4 : Int32} {h : sm_H} (Wh : Wf G h) (t_a0 : tG G a0 2 0) (t_a1 : tG G a1 8 0) (p0_ : a4.toInt ≤ 1200) : kJ (RP G h (fun r : Int32 => r = 0 ∨ r = 1)) (fX1_isMade a0 (some a1) a2 a4 h) := by
  have L0 : (0 : Int32).toInt = 0 := rfl
  have L1 : (1 : Int32).toInt = 1 := rfl
  unfold fX1_isMade
  exact k_PP (kX1_isMade_3 _ _ _ _ _ _ _ Wh t_a0 t_a1 (by first | omega | assumption | decide) (by first | omega | assumption | decide) (by first | omega | assumption | decide) (by simp only [sm_fuel_eq]; omega)) (fun _ q => q)

-- fX7_rowCount
set_option maxHeartbeats 4000000 in
theorem kX7_rowCount {G : GT} {a0 : Nat} {h : sm_H} (Wh : Wf G h) (t_a0 : tG G a0 8 0) : kJ (RP G h (fun r : Int32 => True)) (fX7_rowCount a0 h) := by
  have L0 : (0 : Int32).toInt = 0 := rfl
  have L1 : (1 : Int32).toInt = 1 := rfl
  unfold fX7_rowCount
  refine k_gI Wh t_a0 (by decide) rfl (fun x11_ e2_ x11_l x11_u => ?_)
  exact k_rP trivial

-- fX1_madeBefore_5
set_option maxHeartbeats 4000000 in
theorem kX1_madeBefore_5 {G : GT} : ∀ (n : Nat) (a0 : Nat) (a1 : Nat) (a2 : Int32) (a3 : Int32) (a4 : Int32) (h : sm_H), Wf G h → tG G a0 2 0 → tG G a1 8 0 → 0 ≤ a4.toInt → a4.toInt ≤ 1200 → a2.toInt ≤ 1200 → 1200 - a4.toInt < (n : Int) → kJ (RP G h (fun r : Int32 => True)) (fX1_madeBefore_5 n a0 (some a1) a2 a3 a4 h) := by
  have L0 : (0 : Int32).toInt = 0 := rfl
  have L1 : (1 : Int32).toInt = 1 := rfl
  intro n
  induction n with
  | zero => intro a0 a1 a2 a3 a4 h Wh t_a0 t_a1 p0_ p1_ p2_ m_; exfalso; omega
  | succ n ih =>
    intro a0 a1 a2 a3 a4 h Wh t_a0 t_a1 p0_ p1_ p2_ m_
    unfold fX1_madeBefore_5
    refine k_le (fun c1_ => ?_) (fun c1_ => ?_)
    · skip
      exact k_rP trivial
    · skip
      refine k_gR (r' := 0) Wh t_a0 (by decide) rfl rfl (fun x12_ e3_ tx12_ => ?_)
      refine k_obj Wh tx12_ (by decide) ?_
      refine k_cP (kX3_pairAt Wh tx12_) (fun x24_ qx24_ => ?_)
      refine k_cP (kX1_indexMade Wh qx24_ t_a1) (fun x45_ qx45_ => ?_)
      refine k_l1 (fun c6_ => ?_) (fun c6_ => ?_)
      · skip
        first | refine k_add (by omega) (by omega) (fun x67_ x67_q => ?_) | refine k_let (fun x67_ => ?_)
        first | refine k_add (by omega) (by omega) (fun x78_ x78_q => ?_) | refine k_let (fun x78_ => ?_)
        exact ih _ _ _ _ _ _ Wh t_a0 t_a1 (by first | omega | assumption | decide) (by first | omega | assumption | decide) (by first | omega | assumption | decide) (by omega)
      · skip
        first | refine k_add (by omega) (by omega) (fun x89_ x89_q => ?_) | refine k_let (fun x89_ => ?_)
        first | refine k_add (by omega) (by omega) (fun x910_ x910_q => ?_) | refine k_let (fun x910_ => ?_)
        exact ih _ _ _ _ _ _ Wh t_a0 t_a1 (by first | omega | assumption | decide) (by first | omega | assumption | decide) (by first | omega | assumption | decide) (by omega)

-- fX1_madeBefore
set_option maxHeartbeats 4000000 in
theorem kX1_madeBefore {G : GT} {a0 : Nat} {a1 : Nat} {a2 : Int32} {h : sm_H} (Wh : Wf G h) (t_a0 : tG G a0 2 0) (t_a1 : tG G a1 8 0) (p0_ : a2.toInt ≤ 1200) : kJ (RP G h (fun r : Int32 => True)) (fX1_madeBefore a0 (some a1) a2 h) := by
  have L0 : (0 : Int32).toInt = 0 := rfl
  have L1 : (1 : Int32).toInt = 1 := rfl
  unfold fX1_madeBefore
  exact k_PP (kX1_madeBefore_5 _ _ _ _ _ _ _ Wh t_a0 t_a1 (by first | omega | assumption | decide) (by first | omega | assumption | decide) (by first | omega | assumption | decide) (by simp only [sm_fuel_eq]; omega)) (fun _ q => q)

-- fX1_statusFault
set_option maxHeartbeats 4000000 in
theorem kX1_statusFault {G : GT} {a0 : Nat} {a1 : Nat} {a2 : Int64} {a4 : Int64} {a6 : Int32} {h : sm_H} (Wh : Wf G h) (t_a0 : tG G a0 2 0) (t_a1 : tG G a1 8 0) (p0_ : a6.toInt ≤ 1200) : kJ (RP G h (fun r : Int32 => True)) (fX1_statusFault a0 (some a1) a2 a4 a6 h) := by
  have L0 : (0 : Int32).toInt = 0 := rfl
  have L1 : (1 : Int32).toInt = 1 := rfl
  have L12 : (12 : Int32).toInt = 12 := rfl
  have L13 : (13 : Int32).toInt = 13 := rfl
  have L16 : (16 : Int32).toInt = 16 := rfl
  unfold fX1_statusFault
  refine k_obj Wh t_a1 (by decide) ?_
  refine k_cP (kX7_slotOf Wh t_a1) (fun x11_ qx11_ => ?_)
  refine k_lt (fun c2_ => ?_) (fun c2_ => ?_)
  · skip
    unfold fX1_statusFault_13
    refine k_if (fun c3_ => ?_) (fun c3_ => ?_)
    · skip
      rw [if_pos (by decide)]
      exact k_rP trivial
    · skip
      refine k_if (fun c4_ => ?_) (fun c4_ => ?_)
      · skip
        rw [if_pos (by decide)]
        exact k_rP trivial
      · skip
        refine k_if (fun c5_ => ?_) (fun c5_ => ?_)
        · skip
          exact k_rP trivial
        · skip
          rw [if_pos (by decide)]
          refine k_obj Wh t_a0 (by decide) ?_
          refine k_cP (kX1_isMade Wh t_a0 t_a1 (by first | omega | assumption | decide)) (fun x16_ qx16_ => ?_)
          refine k_if (fun c7_ => ?_) (fun c7_ => ?_)
          · skip
            refine k_obj Wh t_a1 (by decide) ?_
            refine k_cP (kX7_rowCount Wh t_a1) (fun x38_ qx38_ => ?_)
            refine k_obj Wh t_a0 (by decide) ?_
            refine k_cP (kX1_madeBefore Wh t_a0 t_a1 (by first | omega | assumption | decide)) (fun x59_ qx59_ => ?_)
            refine k_lt (fun c10_ => ?_) (fun c10_ => ?_)
            · skip
              exact k_rP trivial
            · skip
              exact k_rP trivial
          · skip
            exact k_rP trivial
  · skip
    unfold fX1_statusFault_13
    refine k_if (fun c11_ => ?_) (fun c11_ => ?_)
    · skip
      rw [if_neg (by decide)]
      exact k_rP trivial
    · skip
      refine k_if (fun c12_ => ?_) (fun c12_ => ?_)
      · skip
        rw [if_neg (by decide)]
        exact k_rP trivial
      · skip
        refine k_if (fun c13_ => ?_) (fun c13_ => ?_)
        · skip
          exact k_rP trivial
        · skip
          rw [if_neg (by decide)]
          exact k_rP trivial

-- fX1_faultAt
set_option maxHeartbeats 4000000 in
theorem kX1_faultAt {G : GT} {a0 : Nat} {a1 : Int32} {h : sm_H} (Wh : Wf G h) (t_a0 : tG G a0 2 0) (p0_ : a1.toInt ≤ 1200) : kJ (RP G h (fun r : Int32 => True)) (fX1_faultAt a0 a1 h) := by
  have L0 : (0 : Int32).toInt = 0 := rfl
  have L1 : (1 : Int32).toInt = 1 := rfl
  have L2 : (2 : Int32).toInt = 2 := rfl
  have L6 : (6 : Int32).toInt = 6 := rfl
  have L7 : (7 : Int32).toInt = 7 := rfl
  have L8 : (8 : Int32).toInt = 8 := rfl
  have L10 : (10 : Int32).toInt = 10 := rfl
  have L11 : (11 : Int32).toInt = 11 := rfl
  have L17 : (17 : Int32).toInt = 17 := rfl
  have L18 : (18 : Int32).toInt = 18 := rfl
  unfold fX1_faultAt
  refine k_gR (r' := 0) Wh t_a0 (by decide) rfl rfl (fun x11_ e2_ tx11_ => ?_)
  refine k_obj Wh tx11_ (by decide) ?_
  refine k_cP (kX3_pairAt Wh tx11_) (fun x23_ qx23_ => ?_)
  rcases x23_ with _ | x23_s
  · rw [if_pos rfl]
    exact k_rP trivial
  · rw [if_neg (by simp)]
    have tx23_s := qx23_ x23_s rfl
    refine k_kR e2_ ?_
    refine k_gN (r' := 0) Wh tx11_ (by decide) rfl rfl (fun x54_ e5_ tx54_ => ?_)
    rcases x54_ with _ | x54_s
    · rw [if_pos rfl]
      exact k_rP trivial
    · rw [if_neg (by simp)]
      have tx54_s := tx54_ x54_s rfl
      refine k_kR e2_ ?_
      refine k_kR e5_ ?_
      refine k_gR (r' := 0) Wh tx23_s (by decide) rfl rfl (fun x86_ e7_ tx86_ => ?_)
      refine k_obj Wh tx54_s (by decide) ?_
      refine k_cP (kX2_shows Wh tx54_s tx86_) (fun x98_ qx98_ => ?_)
      refine k_if (fun c9_ => ?_) (fun c9_ => ?_)
      · skip
        exact k_rP trivial
      · skip
        refine k_gR (r' := 0) Wh t_a0 (by decide) rfl rfl (fun x1110_ e11_ tx1110_ => ?_)
        refine k_kR e7_ ?_
        refine k_obj Wh tx1110_ (by decide) ?_
        refine k_cP (kX9_thingFor Wh tx1110_ tx86_) (fun x1312_ qx1312_ => ?_)
        rcases x1312_ with _ | x1312_s
        · rw [if_pos rfl]
          exact k_rP trivial
        · rw [if_neg (by simp)]
          have tx1312_s := qx1312_ x1312_s rfl
          refine k_gI Wh tx1312_s (by decide) rfl (fun x1513_ e14_ x1513_l x1513_u => ?_)
          refine k_if (fun c15_ => ?_) (fun c15_ => ?_)
          · skip
            refine k_gR (r' := 0) Wh tx23_s (by decide) rfl rfl (fun x1616_ e17_ tx1616_ => ?_)
            refine k_gI Wh tx1616_ (by decide) rfl (fun x1718_ e19_ x1718_l x1718_u => ?_)
            refine k_gI Wh tx1312_s (by decide) rfl (fun x1820_ e21_ x1820_l x1820_u => ?_)
            refine k_if (fun c22_ => ?_) (fun c22_ => ?_)
            · skip
              refine k_kR e17_ ?_
              refine k_obj Wh tx1312_s (by decide) ?_
              refine k_cP (kX8_takesLength Wh tx1312_s tx1616_) (fun x2023_ qx2023_ => ?_)
              refine k_if (fun c24_ => ?_) (fun c24_ => ?_)
              · skip
                exact k_rP trivial
              · skip
                refine k_kR e17_ ?_
                refine k_obj Wh tx1312_s (by decide) ?_
                refine k_cP (kX8_takesNumber Wh tx1312_s tx1616_) (fun x2325_ qx2325_ => ?_)
                refine k_if (fun c26_ => ?_) (fun c26_ => ?_)
                · skip
                  exact k_rP trivial
                · skip
                  refine k_kR e7_ ?_
                  refine k_obj Wh tx1312_s (by decide) ?_
                  refine k_cP (kX8_takesIndex Wh tx1312_s tx86_) (fun x2627_ qx2627_ => ?_)
                  refine k_if (fun c28_ => ?_) (fun c28_ => ?_)
                  · skip
                    exact k_rP trivial
                  · skip
                    refine k_gN (r' := 0) Wh tx1312_s (by decide) rfl rfl (fun x2829_ e30_ tx2829_ => ?_)
                    rcases x2829_ with _ | x2829_s
                    · rw [if_pos rfl]
                      exact k_rP trivial
                    · rw [if_neg (by simp)]
                      have tx2829_s := tx2829_ x2829_s rfl
                      refine k_kR e7_ ?_
                      refine k_gR (r' := 0) Wh tx1312_s (by decide) rfl rfl (fun x3031_ e32_ tx3031_ => ?_)
                      refine k_obj Wh tx3031_ (by decide) ?_
                      refine k_cP (kX0_size Wh tx3031_) (fun x3133_ qx3133_ => ?_)
                      have x3133_l := qx3133_.1
                      have x3133_u := qx3133_.2
                      refine k_obj Wh tx86_ (by decide) ?_
                      refine k_cP (kX0_at Wh tx86_) (fun x3334_ qx3334_ => ?_)
                      refine k_obj Wh tx1312_s (by decide) ?_
                      refine k_cP (kX8_isStatus Wh tx1312_s) (fun x3535_ qx3535_ => ?_)
                      refine k_if (fun c36_ => ?_) (fun c36_ => ?_)
                      · skip
                        refine k_kR e30_ ?_
                        refine k_obj Wh tx2829_s (by decide) ?_
                        refine k_cP (kX7_slotOf Wh tx2829_s) (fun x3837_ qx3837_ => ?_)
                        refine k_lt (fun c38_ => ?_) (fun c38_ => ?_)
                        · skip
                          unfold fX1_faultAt_197
                          rw [if_pos (by decide)]
                          refine k_kR e30_ ?_
                          refine k_kR e2_ ?_
                          refine k_gI Wh tx11_ (by decide) rfl (fun x339_ e40_ x339_l x339_u => ?_)
                          refine k_obj Wh t_a0 (by decide) ?_
                          refine k_cP (kX1_isMade Wh t_a0 tx2829_s (by first | omega | assumption | decide)) (fun x441_ qx441_ => ?_)
                          refine k_if (fun c42_ => ?_) (fun c42_ => ?_)
                          · skip
                            exact k_rP trivial
                          · skip
                            exact k_rP trivial
                        · skip
                          unfold fX1_faultAt_197
                          rw [if_neg (by decide)]
                          exact k_rP trivial
                      · skip
                        refine k_kR e30_ ?_
                        refine k_kR e17_ ?_
                        refine k_gJ Wh tx1616_ (by decide) rfl (fun x4343_ e44_ => ?_)
                        refine k_obj Wh t_a0 (by decide) ?_
                        refine k_cP (kX1_statusFault Wh t_a0 tx2829_s (by first | omega | assumption | decide)) (fun x4445_ qx4445_ => ?_)
                        exact k_rP trivial
            · skip
              exact k_rP trivial
          · skip
            exact k_rP trivial
