-- fX5_readBody
set_option maxHeartbeats 4000000 in
theorem kX5_readBody {G : GT} {a0 : Nat} {a1 : Nat} {h : sm_H} (Wh : Wf G h) (t_a0 : tG G a0 6 0) (t_a1 : tG G a1 4 0) : kJ (RW [(1, 0), (4, 0), (6, 0), (11, 0), (21, 0)] G h (fun (r : Int32) (_ : sm_H) => r = 0 ∨ r = 1)) (fX5_readBody a0 (some a1) h) := by
  have L0 : (0 : Int32).toInt = 0 := rfl
  have L1 : (1 : Int32).toInt = 1 := rfl
  have L48 : (48 : Int32).toInt = 48 := rfl
  unfold fX5_readBody
  refine k_gR (r' := 1) Wh t_a0 (by decide) rfl rfl (fun x11_ e2_ tx11_ => ?_)
  refine k_gI Wh t_a0 (by decide) rfl (fun x23_ e4_ x23_l x23_u => ?_)
  refine k_obj Wh tx11_ (by decide) ?_
  refine k_cP (kX0_at Wh tx11_) (fun x35_ qx35_ => ?_)
  refine k_W t_a1 (by first | decide | simp) (w_putI Wh t_a1 (by decide) rfl (i_lo _) (i_hi _)) (fun h6_ oh6_ xh6_ => ?_)
  have Wh6_ := oh6_.1
  have e7_ := (xh6_ 4).trans (if_pos rfl)
  refine k_W t_a1 (by first | decide | simp) (w_putI Wh6_ t_a1 (by decide) rfl (by first | omega | (rw [i_add1 (by omega)]; omega) | decide) (by first | omega | (rw [i_add1 (by omega)]; omega) | decide)) (fun h8_ oh8_ xh8_ => ?_)
  have Wh8_ := oh8_.1
  have e9_ := ((xh8_ 4).trans (if_neg (by decide))).trans e7_
  have e10_ := (xh8_ 8).trans (if_pos rfl)
  refine k_kI e9_ ?_
  refine k_gI Wh8_ t_a1 (by decide) rfl (fun x811_ e12_ x811_l x811_u => ?_)
  refine k_cP (kX5_isKind Wh8_ ) (fun x913_ qx913_ => ?_)
  refine k_if (fun c14_ => ?_) (fun c14_ => ?_)
  · skip
    exact k_rW Wh8_ (by first | assumption | decide)
  · skip
    refine k_kI e9_ ?_
    refine k_obj Wh8_ t_a0 (by decide) ?_
    refine k_cWW (kX5_enterLast Wh8_ t_a0) (by first | decide | exact fun _ q => q) (fun x1215_ h16_ fh16_ qx1215_ => ?_)
    have Wh16_ := fh16_.1
    have e17_ := kg_fr (fh16_.2.2.2 _ (by rw [t_a1.1, t_a1.2]; first | decide | simp)) e10_
    refine k_if (fun c18_ => ?_) (fun c18_ => ?_)
    · skip
      exact k_rW Wh16_ (by first | assumption | decide)
    · skip
      refine k_obj Wh16_ t_a0 (by decide) ?_
      refine k_cWW (kX5_readInteger Wh16_ t_a0) (by first | decide | exact fun _ q => q) (fun x1419_ h20_ fh20_ qx1419_ => ?_)
      have Wh20_ := fh20_.1
      have e21_ := kg_fr (fh20_.2.2.2 _ (by rw [t_a1.1, t_a1.2]; first | decide | simp)) e17_
      refine k_if (fun c22_ => ?_) (fun c22_ => ?_)
      · skip
        exact k_rW Wh20_ (by first | assumption | decide)
      · skip
        refine k_gR (r' := 0) Wh20_ t_a0 (by decide) rfl rfl (fun x1623_ e24_ tx1623_ => ?_)
        refine k_gJ Wh20_ tx1623_ (by decide) rfl (fun x1725_ e26_ => ?_)
        refine k_W t_a1 (by first | decide | simp) (w_putI Wh20_ t_a1 (by decide) rfl (i_lo _) (i_hi _)) (fun h27_ oh27_ xh27_ => ?_)
        have Wh27_ := oh27_.1
        have e28_ := ((xh27_ 8).trans (if_neg (by decide))).trans e21_
        have e29_ := kg_fr (oh27_.2.2.2 _ (tg_ne t_a0 t_a1 (by simp))) e24_
        refine k_obj Wh27_ t_a0 (by decide) ?_
        refine k_cWW (kX5_readInteger Wh27_ t_a0) (by first | decide | exact fun _ q => q) (fun x1930_ h31_ fh31_ qx1930_ => ?_)
        have Wh31_ := fh31_.1
        have e32_ := kg_fr (fh31_.2.2.2 _ (by rw [t_a1.1, t_a1.2]; first | decide | simp)) e28_
        refine k_if (fun c33_ => ?_) (fun c33_ => ?_)
        · skip
          exact k_rW Wh31_ (by first | assumption | decide)
        · skip
          refine k_gR (r' := 0) Wh31_ t_a0 (by decide) rfl rfl (fun x2134_ e35_ tx2134_ => ?_)
          refine k_gJ Wh31_ tx2134_ (by decide) rfl (fun x2236_ e37_ => ?_)
          refine k_W t_a1 (by first | decide | simp) (w_putI Wh31_ t_a1 (by decide) rfl (i_lo _) (i_hi _)) (fun h38_ oh38_ xh38_ => ?_)
          have Wh38_ := oh38_.1
          have e39_ := ((xh38_ 8).trans (if_neg (by decide))).trans e32_
          have e40_ := kg_fr (oh38_.2.2.2 _ (tg_ne t_a0 t_a1 (by simp))) e35_
          refine k_obj Wh38_ t_a0 (by decide) ?_
          refine k_cWW (kX5_readInteger Wh38_ t_a0) (by first | decide | exact fun _ q => q) (fun x2441_ h42_ fh42_ qx2441_ => ?_)
          have Wh42_ := fh42_.1
          have e43_ := kg_fr (fh42_.2.2.2 _ (by rw [t_a1.1, t_a1.2]; first | decide | simp)) e39_
          refine k_if (fun c44_ => ?_) (fun c44_ => ?_)
          · skip
            exact k_rW Wh42_ (by first | assumption | decide)
          · skip
            refine k_gR (r' := 0) Wh42_ t_a0 (by decide) rfl rfl (fun x2645_ e46_ tx2645_ => ?_)
            refine k_gJ Wh42_ tx2645_ (by decide) rfl (fun x2747_ e48_ => ?_)
            refine k_W t_a1 (by first | decide | simp) (w_putI Wh42_ t_a1 (by decide) rfl (i_lo _) (i_hi _)) (fun h49_ oh49_ xh49_ => ?_)
            have Wh49_ := oh49_.1
            have e50_ := ((xh49_ 8).trans (if_neg (by decide))).trans e43_
            refine k_obj Wh49_ t_a0 (by decide) ?_
            refine k_cWW (kX5_enterLast Wh49_ t_a0) (by first | decide | exact fun _ q => q) (fun x2951_ h52_ fh52_ qx2951_ => ?_)
            have Wh52_ := fh52_.1
            have e53_ := kg_fr (fh52_.2.2.2 _ (by rw [t_a1.1, t_a1.2]; first | decide | simp)) e50_
            refine k_if (fun c54_ => ?_) (fun c54_ => ?_)
            · skip
              exact k_rW Wh52_ (by first | assumption | decide)
            · skip
              exact k_WW (kX5_readBody_122 _ _ _ _ _ Wh52_ t_a0 t_a1 (by first | omega | assumption | decide) (by first | omega | assumption | decide) ⟨_, e53_, by first | omega | (rw [i_add1 (by omega)]; omega) | decide⟩ (by simp only [sm_fuel_eq]; omega)) (by first | decide | exact fun _ q => q) (fun _ _ _ q => q)

-- fX6_error
set_option maxHeartbeats 4000000 in
theorem kX6_error {G : GT} {a0 : Nat} {h : sm_H} (Wh : Wf G h) (t_a0 : tG G a0 7 0) : kJ (RP G h (fun r : Int32 => True)) (fX6_error a0 h) := by
  have L0 : (0 : Int32).toInt = 0 := rfl
  have L1 : (1 : Int32).toInt = 1 := rfl
  unfold fX6_error
  refine k_gI Wh t_a0 (by decide) rfl (fun x11_ e2_ x11_l x11_u => ?_)
  exact k_rP trivial

-- fX6_pairAt
set_option maxHeartbeats 4000000 in
theorem kX6_pairAt {G : GT} {a0 : Nat} {a1 : Int32} {h : sm_H} (Wh : Wf G h) (t_a0 : tG G a0 7 0) : kJ (RP G h (fun r : Option Nat => tN G r 5 0)) (fX6_pairAt a0 a1 h) := by
  have L0 : (0 : Int32).toInt = 0 := rfl
  have L1 : (1 : Int32).toInt = 1 := rfl
  unfold fX6_pairAt
  refine k_lt (fun c1_ => ?_) (fun c1_ => ?_)
  · skip
    exact k_rP tN_n
  · skip
    refine k_gI Wh t_a0 (by decide) rfl (fun x12_ e3_ x12_l x12_u => ?_)
    refine k_le (fun c4_ => ?_) (fun c4_ => ?_)
    · skip
      exact k_rP tN_n
    · skip
      refine k_gR (r' := 0) Wh t_a0 (by decide) rfl rfl (fun x25_ e6_ tx25_ => ?_)
      refine k_len (B := 40) Wh tx25_ rfl (fun x37_ x37_l x37_u => ?_)
      refine k_le (fun c8_ => ?_) (fun c8_ => ?_)
      · skip
        exact k_rP tN_n
      · skip
        refine k_kR e6_ ?_
        refine k_aR (c' := 5) Wh tx25_ (by decide) rfl (by first | omega | decide) (by first | omega | decide) (fun x59_ tx59_ => ?_)
        exact k_rP tx59_

-- fX6_fail
set_option maxHeartbeats 4000000 in
theorem kX6_fail {G : GT} {a0 : Nat} {a1 : Int32} {a2 : Int32} {h : sm_H} (Wh : Wf G h) (t_a0 : tG G a0 7 0) : kJ (RW [(7, 0)] G h (fun (r : Unit) (_ : sm_H) => True)) (fX6_fail a0 a1 a2 h) := by
  have L0 : (0 : Int32).toInt = 0 := rfl
  have L1 : (1 : Int32).toInt = 1 := rfl
  unfold fX6_fail
  refine k_W t_a0 (by first | decide | simp) (w_putI Wh t_a0 (by decide) rfl (by first | omega | (rw [i_add1 (by omega)]; omega) | decide) (by first | omega | (rw [i_add1 (by omega)]; omega) | decide)) (fun h1_ oh1_ xh1_ => ?_)
  have Wh1_ := oh1_.1
  refine k_W t_a0 (by first | decide | simp) (w_putI Wh1_ t_a0 (by decide) rfl (i_lo _) (i_hi _)) (fun h2_ oh2_ xh2_ => ?_)
  have Wh2_ := oh2_.1
  refine k_W t_a0 (by first | decide | simp) (w_putI Wh2_ t_a0 (by decide) rfl (i_lo _) (i_hi _)) (fun h3_ oh3_ xh3_ => ?_)
  have Wh3_ := oh3_.1
  refine k_W t_a0 (by first | decide | simp) (w_putI Wh3_ t_a0 (by decide) rfl (i_lo _) (i_hi _)) (fun h4_ oh4_ xh4_ => ?_)
  have Wh4_ := oh4_.1
  exact k_rW Wh4_ trivial

-- fX6_clear
set_option maxHeartbeats 4000000 in
theorem kX6_clear {G : GT} {a0 : Nat} {h : sm_H} (Wh : Wf G h) (t_a0 : tG G a0 7 0) : kJ (RW [(1, 0), (7, 0)] G h (fun (r : Unit) (_ : sm_H) => True)) (fX6_clear a0 h) := by
  have L0 : (0 : Int32).toInt = 0 := rfl
  have L1 : (1 : Int32).toInt = 1 := rfl
  unfold fX6_clear
  refine k_gR (r' := 0) Wh t_a0 (by decide) rfl rfl (fun x11_ e2_ tx11_ => ?_)
  refine k_obj Wh tx11_ (by decide) ?_
  refine k_cWW (kX0_clear Wh tx11_) (by first | decide | exact fun _ q => q) (fun v3_ h4_ fh4_ qv3_ => ?_)
  have Wh4_ := fh4_.1
  refine k_obj Wh4_ t_a0 (by decide) ?_
  refine k_cWW (kX6_fail Wh4_ t_a0) (by first | decide | exact fun _ q => q) (fun v5_ h6_ fh6_ qv5_ => ?_)
  have Wh6_ := fh6_.1
  exact k_rW Wh6_ trivial

-- fX6_sevens_2
set_option maxHeartbeats 4000000 in
theorem kX6_sevens_2 {G : GT} : ∀ (n : Nat) (a0 : Int64) (a2 : Int32) (h : sm_H), Wf G h → 1 ≤ a2.toInt → a2.toInt ≤ 5 → 5 - a2.toInt < (n : Int) → kJ (RP G h (fun r : Int32 => 1 ≤ r.toInt ∧ r.toInt ≤ 5)) (fX6_sevens_2 n a0 a2 h) := by
  have L0 : (0 : Int32).toInt = 0 := rfl
  have L1 : (1 : Int32).toInt = 1 := rfl
  have L5 : (5 : Int32).toInt = 5 := rfl
  have L7 : (7 : Int32).toInt = 7 := rfl
  intro n
  induction n with
  | zero => intro a0 a2 h Wh p0_ p1_ m_; exfalso; omega
  | succ n ih =>
    intro a0 a2 h Wh p0_ p1_ m_
    unfold fX6_sevens_2
    refine k_le (fun c1_ => ?_) (fun c1_ => ?_)
    · skip
      exact k_rP ⟨by first | omega | decide, by first | omega | decide⟩
    · skip
      refine k_if (fun c2_ => ?_) (fun c2_ => ?_)
      · skip
        exact k_rP ⟨by first | omega | decide, by first | omega | decide⟩
      · skip
        first | refine k_add (by omega) (by omega) (fun x13_ x13_q => ?_) | refine k_let (fun x13_ => ?_)
        exact ih _ _ _ Wh  (by first | omega | assumption | decide) (by first | omega | assumption | decide) (by omega)

-- fX6_sevens
set_option maxHeartbeats 4000000 in
theorem kX6_sevens {G : GT} {a0 : Int64} {h : sm_H} (Wh : Wf G h) : kJ (RP G h (fun r : Int32 => 1 ≤ r.toInt ∧ r.toInt ≤ 5)) (fX6_sevens a0 h) := by
  have L0 : (0 : Int32).toInt = 0 := rfl
  have L1 : (1 : Int32).toInt = 1 := rfl
  unfold fX6_sevens
  exact k_PP (kX6_sevens_2 _ _ _ _ Wh  (by first | omega | assumption | decide) (by first | omega | assumption | decide) (by simp only [sm_fuel_eq]; omega)) (fun _ q => q)

-- fX6_nameContent_4
set_option maxHeartbeats 4000000 in
theorem kX6_nameContent_4 {G : GT} {r_a0 : Nat} : ∀ (n : Nat) (a0 : Nat) (a1 : Int32) (a2 : Int32) (h : sm_H), Wf G h → tG G a0 1 r_a0 → 2 ≤ a2.toInt → a2.toInt ≤ 1200 → 1 ≤ a1.toInt → a1.toInt ≤ 5 * a2.toInt → 1200 - a2.toInt < (n : Int) → kJ (RP G h (fun r : Int32 => 1 ≤ r.toInt ∧ r.toInt ≤ 6000)) (fX6_nameContent_4 n (some a0) a1 a2 h) := by
  have L0 : (0 : Int32).toInt = 0 := rfl
  have L1 : (1 : Int32).toInt = 1 := rfl
  intro n
  induction n with
  | zero => intro a0 a1 a2 h Wh t_a0 p0_ p1_ p2_ p3_ m_; exfalso; omega
  | succ n ih =>
    intro a0 a1 a2 h Wh t_a0 p0_ p1_ p2_ p3_ m_
    unfold fX6_nameContent_4
    refine k_obj Wh t_a0 (by decide) ?_
    refine k_cP (kX0_size Wh t_a0) (fun x11_ qx11_ => ?_)
    have x11_l := qx11_.1
    have x11_u := qx11_.2
    refine k_le (fun c2_ => ?_) (fun c2_ => ?_)
    · skip
      exact k_rP ⟨by first | omega | decide, by first | omega | decide⟩
    · skip
      refine k_obj Wh t_a0 (by decide) ?_
      refine k_cP (kX0_at Wh t_a0) (fun x33_ qx33_ => ?_)
      refine k_cP (kX6_sevens Wh ) (fun x54_ qx54_ => ?_)
      have x54_l := qx54_.1
      have x54_u := qx54_.2
      first | refine k_add (by omega) (by omega) (fun x75_ x75_q => ?_) | refine k_let (fun x75_ => ?_)
      first | refine k_add (by omega) (by omega) (fun x86_ x86_q => ?_) | refine k_let (fun x86_ => ?_)
      exact ih _ _ _ _ Wh t_a0 (by first | omega | assumption | decide) (by first | omega | assumption | decide) (by first | omega | assumption | decide) (by first | omega | assumption | decide) (by omega)

-- fX6_nameContent
set_option maxHeartbeats 4000000 in
theorem kX6_nameContent {G : GT} {r_a0 : Nat} {a0 : Nat} {h : sm_H} (Wh : Wf G h) (t_a0 : tG G a0 1 r_a0) : kJ (RP G h (fun r : Int32 => 1 ≤ r.toInt ∧ r.toInt ≤ 6000)) (fX6_nameContent (some a0) h) := by
  have L0 : (0 : Int32).toInt = 0 := rfl
  have L1 : (1 : Int32).toInt = 1 := rfl
  have L2 : (2 : Int32).toInt = 2 := rfl
  unfold fX6_nameContent
  exact k_PP (kX6_nameContent_4 _ _ _ _ _ Wh t_a0 (by first | omega | assumption | decide) (by first | omega | assumption | decide) (by first | omega | assumption | decide) (by first | omega | assumption | decide) (by simp only [sm_fuel_eq]; omega)) (fun _ q => q)

-- fX6_fieldSize
set_option maxHeartbeats 4000000 in
theorem kX6_fieldSize {G : GT} {a0 : Int32} {h : sm_H} (Wh : Wf G h) : kJ (RP G h (fun r : Int32 => True)) (fX6_fieldSize a0 h) := by
  have L0 : (0 : Int32).toInt = 0 := rfl
  have L1 : (1 : Int32).toInt = 1 := rfl
  have L2 : (2 : Int32).toInt = 2 := rfl
  have L3 : (3 : Int32).toInt = 3 := rfl
  have L128 : (128 : Int32).toInt = 128 := rfl
  have L256 : (256 : Int32).toInt = 256 := rfl
  unfold fX6_fieldSize
  refine k_le (fun c1_ => ?_) (fun c1_ => ?_)
  · skip
    refine k_le (fun c2_ => ?_) (fun c2_ => ?_)
    · skip
      exact k_rP trivial
    · skip
      exact k_rP trivial
  · skip
    exact k_rP trivial

-- fX6_numberContent_2
set_option maxHeartbeats 4000000 in
theorem kX6_numberContent_2 {G : GT} : ∀ (n : Nat) (a0 : Int64) (a2 : Int32) (h : sm_H), Wf G h → 1 ≤ a2.toInt → a2.toInt ≤ 8 → 8 - a2.toInt < (n : Int) → kJ (RP G h (fun r : Int32 => 1 ≤ r.toInt ∧ r.toInt ≤ 8)) (fX6_numberContent_2 n a0 a2 h) := by
  have L0 : (0 : Int32).toInt = 0 := rfl
  have L1 : (1 : Int32).toInt = 1 := rfl
  have L8 : (8 : Int32).toInt = 8 := rfl
  intro n
  induction n with
  | zero => intro a0 a2 h Wh p0_ p1_ m_; exfalso; omega
  | succ n ih =>
    intro a0 a2 h Wh p0_ p1_ m_
    unfold fX6_numberContent_2
    refine k_le (fun c1_ => ?_) (fun c1_ => ?_)
    · skip
      exact k_rP ⟨by first | omega | decide, by first | omega | decide⟩
    · skip
      refine k_let (fun x12_ => ?_)
      refine k_if (fun c3_ => ?_) (fun c3_ => ?_)
      · skip
        exact k_rP ⟨by first | omega | decide, by first | omega | decide⟩
      · skip
        refine k_if (fun c4_ => ?_) (fun c4_ => ?_)
        · skip
          exact k_rP ⟨by first | omega | decide, by first | omega | decide⟩
        · skip
          first | refine k_add (by omega) (by omega) (fun x25_ x25_q => ?_) | refine k_let (fun x25_ => ?_)
          exact ih _ _ _ Wh  (by first | omega | assumption | decide) (by first | omega | assumption | decide) (by omega)

-- fX6_numberContent
set_option maxHeartbeats 4000000 in
theorem kX6_numberContent {G : GT} {a0 : Int64} {h : sm_H} (Wh : Wf G h) : kJ (RP G h (fun r : Int32 => 1 ≤ r.toInt ∧ r.toInt ≤ 8)) (fX6_numberContent a0 h) := by
  have L0 : (0 : Int32).toInt = 0 := rfl
  have L1 : (1 : Int32).toInt = 1 := rfl
  unfold fX6_numberContent
  exact k_PP (kX6_numberContent_2 _ _ _ _ Wh  (by first | omega | assumption | decide) (by first | omega | assumption | decide) (by simp only [sm_fuel_eq]; omega)) (fun _ q => q)

-- fX6_valueContent
set_option maxHeartbeats 4000000 in
theorem kX6_valueContent {G : GT} {a0 : Nat} {h : sm_H} (Wh : Wf G h) (t_a0 : tG G a0 11 0) : kJ (RP G h (fun r : Int32 => 0 ≤ r.toInt ∧ r.toInt ≤ 6000)) (fX6_valueContent (some a0) h) := by
  have L0 : (0 : Int32).toInt = 0 := rfl
  have L1 : (1 : Int32).toInt = 1 := rfl
  have L2 : (2 : Int32).toInt = 2 := rfl
  have L4 : (4 : Int32).toInt = 4 := rfl
  have L6 : (6 : Int32).toInt = 6 := rfl
  have L9 : (9 : Int32).toInt = 9 := rfl
  have L64 : (64 : Int32).toInt = 64 := rfl
  have L65 : (65 : Int32).toInt = 65 := rfl
  have L66 : (66 : Int32).toInt = 66 := rfl
  have L67 : (67 : Int32).toInt = 67 := rfl
  have L70 : (70 : Int32).toInt = 70 := rfl
  unfold fX6_valueContent
  refine k_gI Wh t_a0 (by decide) rfl (fun x11_ e2_ x11_l x11_u => ?_)
  refine k_if (fun c3_ => ?_) (fun c3_ => ?_)
  · skip
    refine k_gJ Wh t_a0 (by decide) rfl (fun x24_ e5_ => ?_)
    refine k_cP (kX6_numberContent Wh ) (fun x36_ qx36_ => ?_)
    have x36_l := qx36_.1
    have x36_u := qx36_.2
    exact k_rP ⟨by first | omega | decide, by first | omega | decide⟩
  · skip
    refine k_if (fun c7_ => ?_) (fun c7_ => ?_)
    · skip
      refine k_gR (r' := 0) Wh t_a0 (by decide) rfl rfl (fun x68_ e9_ tx68_ => ?_)
      refine k_obj Wh tx68_ (by decide) ?_
      refine k_cP (kX0_size Wh tx68_) (fun x710_ qx710_ => ?_)
      have x710_l := qx710_.1
      have x710_u := qx710_.2
      exact k_rP ⟨by first | omega | decide, by first | omega | decide⟩
    · skip
      refine k_if (fun c11_ => ?_) (fun c11_ => ?_)
      · skip
        refine k_gR (r' := 0) Wh t_a0 (by decide) rfl rfl (fun x1112_ e13_ tx1112_ => ?_)
        refine k_cP (kX6_nameContent Wh tx1112_) (fun x1214_ qx1214_ => ?_)
        have x1214_l := qx1214_.1
        have x1214_u := qx1214_.2
        exact k_rP ⟨by first | omega | decide, by first | omega | decide⟩
      · skip
        refine k_if (fun c15_ => ?_) (fun c15_ => ?_)
        · skip
          exact k_rP ⟨by first | omega | decide, by first | omega | decide⟩
        · skip
          refine k_if (fun c16_ => ?_) (fun c16_ => ?_)
          · skip
            refine k_gJ Wh t_a0 (by decide) rfl (fun x1617_ e18_ => ?_)
            refine k_cP (kX6_numberContent Wh ) (fun x1719_ qx1719_ => ?_)
            have x1719_l := qx1719_.1
            have x1719_u := qx1719_.2
            exact k_rP ⟨by first | omega | decide, by first | omega | decide⟩
          · skip
            refine k_if (fun c20_ => ?_) (fun c20_ => ?_)
            · skip
              refine k_gJ Wh t_a0 (by decide) rfl (fun x2021_ e22_ => ?_)
              refine k_cP (kX6_numberContent Wh ) (fun x2123_ qx2123_ => ?_)
              have x2123_l := qx2123_.1
              have x2123_u := qx2123_.2
              exact k_rP ⟨by first | omega | decide, by first | omega | decide⟩
            · skip
              refine k_if (fun c24_ => ?_) (fun c24_ => ?_)
              · skip
                refine k_gJ Wh t_a0 (by decide) rfl (fun x2425_ e26_ => ?_)
                refine k_cP (kX6_numberContent Wh ) (fun x2527_ qx2527_ => ?_)
                have x2527_l := qx2527_.1
                have x2527_u := qx2527_.2
                exact k_rP ⟨by first | omega | decide, by first | omega | decide⟩
              · skip
                refine k_if (fun c28_ => ?_) (fun c28_ => ?_)
                · skip
                  refine k_gJ Wh t_a0 (by decide) rfl (fun x2829_ e30_ => ?_)
                  refine k_l4 (fun c31_ => ?_) (fun c31_ => ?_)
                  · skip
                    refine k_kJ e30_ ?_
                    refine k_cP (kX6_numberContent Wh ) (fun x3032_ qx3032_ => ?_)
                    have x3032_l := qx3032_.1
                    have x3032_u := qx3032_.2
                    exact k_rP ⟨by first | omega | decide, by first | omega | decide⟩
                  · skip
                    exact k_rP ⟨by first | omega | decide, by first | omega | decide⟩
                · skip
                  exact k_rP ⟨by first | omega | decide, by first | omega | decide⟩

-- fX6_pairContent
set_option maxHeartbeats 4000000 in
theorem kX6_pairContent {G : GT} {r_a0 : Nat} {a0 : Nat} {a1 : Nat} {h : sm_H} (Wh : Wf G h) (t_a0 : tG G a0 1 r_a0) (t_a1 : tG G a1 11 0) : kJ (RP G h (fun r : Int32 => True)) (fX6_pairContent (some a0) (some a1) h) := by
  have L0 : (0 : Int32).toInt = 0 := rfl
  have L1 : (1 : Int32).toInt = 1 := rfl
  unfold fX6_pairContent
  refine k_cP (kX6_nameContent Wh t_a0) (fun x11_ qx11_ => ?_)
  have x11_l := qx11_.1
  have x11_u := qx11_.2
  refine k_cP (kX6_fieldSize Wh ) (fun x32_ qx32_ => ?_)
  refine k_cP (kX6_valueContent Wh t_a1) (fun x53_ qx53_ => ?_)
  have x53_l := qx53_.1
  have x53_u := qx53_.2
  refine k_cP (kX6_fieldSize Wh ) (fun x74_ qx74_ => ?_)
  exact k_rP trivial

-- fX6_tell
set_option maxHeartbeats 4000000 in
theorem kX6_tell {G : GT} {r_a1 : Nat} {a0 : Nat} {a1 : Nat} {a2 : Nat} {h : sm_H} (Wh : Wf G h) (t_a0 : tG G a0 7 0) (t_a1 : tG G a1 1 r_a1) (t_a2 : tG G a2 11 0) : kJ (RW [(1, 0), (5, 0), (7, 0), (21, 0)] G h (fun (r : Unit) (_ : sm_H) => True)) (fX6_tell a0 (some a1) (some a2) h) := by
  have L0 : (0 : Int32).toInt = 0 := rfl
  have L1 : (1 : Int32).toInt = 1 := rfl
  unfold fX6_tell
  refine k_gI Wh t_a0 (by decide) rfl (fun x11_ e2_ x11_l x11_u => ?_)
  refine k_lt (fun c3_ => ?_) (fun c3_ => ?_)
  · skip
    unfold fX6_tell_32
    rw [if_pos rfl]
    exact k_rW Wh trivial
  · skip
    refine k_kI e2_ ?_
    refine k_gR (r' := 0) Wh t_a0 (by decide) rfl rfl (fun x34_ e5_ tx34_ => ?_)
    refine k_len (B := 40) Wh tx34_ rfl (fun x46_ x46_l x46_u => ?_)
    refine k_le (fun c7_ => ?_) (fun c7_ => ?_)
    · skip
      unfold fX6_tell_32
      rw [if_pos rfl]
      exact k_rW Wh trivial
    · skip
      refine k_kR e5_ ?_
      refine k_kI e2_ ?_
      refine k_aR (c' := 5) Wh tx34_ (by decide) rfl (by first | omega | decide) (by first | omega | decide) (fun x78_ tx78_ => ?_)
      unfold fX6_tell_32
      rcases x78_ with _ | x78_s
      · rw [if_pos rfl]
        exact k_rW Wh trivial
      · rw [if_neg (by simp)]
        have tx78_s := tx78_ x78_s rfl
        refine k_gR (r' := 0) Wh tx78_s (by decide) rfl rfl (fun x19_ e10_ tx19_ => ?_)
        refine k_obj Wh tx19_ (by decide) ?_
        refine k_cWW (kX0_copy Wh tx19_ t_a1) (by first | decide | exact fun _ q => q) (fun v11_ h12_ fh12_ qv11_ => ?_)
        have Wh12_ := fh12_.1
        have e13_ := kg_fr (fh12_.2.2.2 _ (by rw [t_a0.1, t_a0.2]; first | decide | simp)) e2_
        refine k_W tx78_s (by first | decide | simp) (w_putR Wh12_ tx78_s (by decide) rfl rfl (fun _ => by simp) (tN_s t_a2)) (fun h14_ oh14_ xh14_ => ?_)
        have Wh14_ := oh14_.1
        have e15_ := kg_fr (oh14_.2.2.2 _ (tg_ne t_a0 tx78_s (by simp))) e13_
        refine k_kI e15_ ?_
        refine k_W t_a0 (by first | decide | simp) (w_putI Wh14_ t_a0 (by decide) rfl (by first | omega | (rw [i_add1 (by omega)]; omega) | decide) (by first | omega | (rw [i_add1 (by omega)]; omega) | decide)) (fun h16_ oh16_ xh16_ => ?_)
        have Wh16_ := oh16_.1
        refine k_gI Wh16_ t_a0 (by decide) rfl (fun x617_ e18_ x617_l x617_u => ?_)
        refine k_cP (kX6_pairContent Wh16_ t_a1 t_a2) (fun x719_ qx719_ => ?_)
        refine k_cP (kX6_fieldSize Wh16_ ) (fun x920_ qx920_ => ?_)
        refine k_W t_a0 (by first | decide | simp) (w_putI Wh16_ t_a0 (by decide) rfl (i_lo _) (i_hi _)) (fun h21_ oh21_ xh21_ => ?_)
        have Wh21_ := oh21_.1
        exact k_rW Wh21_ trivial
