-- fX6_write_102
set_option maxHeartbeats 4000000 in
theorem kX6_write_102 {G : GT} : ∀ (n : Nat) (a0 : Nat) (a2 : Int32) (h : sm_H), Wf G h → tG G a0 7 0 → 0 ≤ a2.toInt → a2.toInt ≤ 1200 → 1200 - a2.toInt < (n : Int) → kJ (RW [(1, 0), (21, 0)] G h (fun (r : Unit) (_ : sm_H) => True)) (fX6_write_102 n a0 a2 h) := by
  have L0 : (0 : Int32).toInt = 0 := rfl
  have L1 : (1 : Int32).toInt = 1 := rfl
  intro n
  induction n with
  | zero => intro a0 a2 h Wh t_a0 p0_ p1_ m_; exfalso; omega
  | succ n ih =>
    intro a0 a2 h Wh t_a0 p0_ p1_ m_
    unfold fX6_write_102
    refine k_gI Wh t_a0 (by decide) rfl (fun x11_ e2_ x11_l x11_u => ?_)
    refine k_le (fun c3_ => ?_) (fun c3_ => ?_)
    · skip
      exact k_rW Wh trivial
    · skip
      refine k_obj Wh t_a0 (by decide) ?_
      refine k_cP (kX6_pairAt Wh t_a0) (fun x24_ qx24_ => ?_)
      rcases x24_ with _ | x24_s
      · rw [if_pos rfl]
        first | refine k_add (by omega) (by omega) (fun x45_ x45_q => ?_) | refine k_let (fun x45_ => ?_)
        exact ih _ _ _ Wh t_a0 (by first | omega | assumption | decide) (by first | omega | assumption | decide) (by omega)
      · rw [if_neg (by simp)]
        have tx24_s := qx24_ x24_s rfl
        refine k_obj Wh t_a0 (by decide) ?_
        refine k_cWW (kX6_putPair Wh t_a0 tx24_s) (by first | decide | exact fun _ q => q) (fun v6_ h7_ fh7_ qv6_ => ?_)
        have Wh7_ := fh7_.1
        first | refine k_add (by omega) (by omega) (fun x68_ x68_q => ?_) | refine k_let (fun x68_ => ?_)
        exact ih _ _ _ Wh7_ t_a0 (by first | omega | assumption | decide) (by first | omega | assumption | decide) (by omega)

-- fX6_write
set_option maxHeartbeats 4000000 in
theorem kX6_write {G : GT} {a0 : Nat} {a1 : Nat} {h : sm_H} (Wh : Wf G h) (t_a0 : tG G a0 7 0) (t_a1 : tG G a1 4 0) : kJ (RW [(1, 0), (21, 0)] G h (fun (r : Unit) (_ : sm_H) => True)) (fX6_write a0 (some a1) h) := by
  have L0 : (0 : Int32).toInt = 0 := rfl
  have L1 : (1 : Int32).toInt = 1 := rfl
  have L4 : (4 : Int32).toInt = 4 := rfl
  have L48 : (48 : Int32).toInt = 48 := rfl
  have L162 : (162 : Int32).toInt = 162 := rfl
  unfold fX6_write
  refine k_gR (r' := 0) Wh t_a0 (by decide) rfl rfl (fun x11_ e2_ tx11_ => ?_)
  refine k_obj Wh tx11_ (by decide) ?_
  refine k_cWW (kX0_clear Wh tx11_) (by first | decide | exact fun _ q => q) (fun v3_ h4_ fh4_ qv3_ => ?_)
  have Wh4_ := fh4_.1
  refine k_gI Wh4_ t_a0 (by decide) rfl (fun x35_ e6_ x35_l x35_u => ?_)
  refine k_obj Wh4_ t_a0 (by decide) ?_
  refine k_cP (kX6_outerContent Wh4_ t_a0 t_a1) (fun x47_ qx47_ => ?_)
  refine k_obj Wh4_ t_a0 (by decide) ?_
  refine k_cWW (kX6_putHead Wh4_ t_a0) (by first | decide | exact fun _ q => q) (fun v8_ h9_ fh9_ qv8_ => ?_)
  have Wh9_ := fh9_.1
  have e10_ := kg_fr (fh9_.2.2.2 _ (by rw [t_a0.1, t_a0.2]; first | decide | simp)) e6_
  refine k_gI Wh9_ t_a1 (by decide) rfl (fun x711_ e12_ x711_l x711_u => ?_)
  refine k_obj Wh9_ t_a0 (by decide) ?_
  refine k_cWW (kX6_putInteger Wh9_ t_a0) (by first | decide | exact fun _ q => q) (fun v13_ h14_ fh14_ qv13_ => ?_)
  have Wh14_ := fh14_.1
  have e15_ := kg_fr (fh14_.2.2.2 _ (by rw [t_a0.1, t_a0.2]; first | decide | simp)) e10_
  refine k_gR (r' := 0) Wh14_ t_a1 (by decide) rfl rfl (fun x916_ e17_ tx916_ => ?_)
  refine k_obj Wh14_ tx916_ (by decide) ?_
  refine k_cP (kX0_size Wh14_ tx916_) (fun x1018_ qx1018_ => ?_)
  have x1018_l := qx1018_.1
  have x1018_u := qx1018_.2
  refine k_obj Wh14_ t_a0 (by decide) ?_
  refine k_cWW (kX6_putHead Wh14_ t_a0) (by first | decide | exact fun _ q => q) (fun v19_ h20_ fh20_ qv19_ => ?_)
  have Wh20_ := fh20_.1
  have e21_ := kg_fr (fh20_.2.2.2 _ (by rw [t_a0.1, t_a0.2]; first | decide | simp)) e15_
  have e22_ := kg_fr (fh20_.2.2.2 _ (by rw [t_a1.1, t_a1.2]; first | decide | simp)) e17_
  refine k_kR e22_ ?_
  refine k_obj Wh20_ t_a0 (by decide) ?_
  refine k_cWW (kX6_putParts Wh20_ t_a0 tx916_) (by first | decide | exact fun _ q => q) (fun v23_ h24_ fh24_ qv23_ => ?_)
  have Wh24_ := fh24_.1
  have e25_ := kg_fr (fh24_.2.2.2 _ (by rw [t_a0.1, t_a0.2]; first | decide | simp)) e21_
  refine k_kI e25_ ?_
  refine k_obj Wh24_ t_a0 (by decide) ?_
  refine k_cP (kX6_innerContent Wh24_ t_a0 t_a1) (fun x1626_ qx1626_ => ?_)
  refine k_obj Wh24_ t_a0 (by decide) ?_
  refine k_cWW (kX6_putHead Wh24_ t_a0) (by first | decide | exact fun _ q => q) (fun v27_ h28_ fh28_ qv27_ => ?_)
  have Wh28_ := fh28_.1
  have e29_ := kg_fr (fh28_.2.2.2 _ (by rw [t_a0.1, t_a0.2]; first | decide | simp)) e25_
  refine k_gI Wh28_ t_a1 (by decide) rfl (fun x1930_ e31_ x1930_l x1930_u => ?_)
  refine k_obj Wh28_ t_a0 (by decide) ?_
  refine k_cWW (kX6_putInteger Wh28_ t_a0) (by first | decide | exact fun _ q => q) (fun v32_ h33_ fh33_ qv32_ => ?_)
  have Wh33_ := fh33_.1
  have e34_ := kg_fr (fh33_.2.2.2 _ (by rw [t_a0.1, t_a0.2]; first | decide | simp)) e29_
  refine k_gI Wh33_ t_a0 (by decide) rfl (fun x2135_ e36_ x2135_l x2135_u => ?_)
  refine k_obj Wh33_ t_a0 (by decide) ?_
  refine k_cWW (kX6_putInteger Wh33_ t_a0) (by first | decide | exact fun _ q => q) (fun v37_ h38_ fh38_ qv37_ => ?_)
  have Wh38_ := fh38_.1
  have e39_ := kg_fr (fh38_.2.2.2 _ (by rw [t_a0.1, t_a0.2]; first | decide | simp)) e34_
  refine k_gI Wh38_ t_a0 (by decide) rfl (fun x2340_ e41_ x2340_l x2340_u => ?_)
  refine k_obj Wh38_ t_a0 (by decide) ?_
  refine k_cWW (kX6_putInteger Wh38_ t_a0) (by first | decide | exact fun _ q => q) (fun v42_ h43_ fh43_ qv42_ => ?_)
  have Wh43_ := fh43_.1
  have e44_ := kg_fr (fh43_.2.2.2 _ (by rw [t_a0.1, t_a0.2]; first | decide | simp)) e39_
  refine k_kI e44_ ?_
  refine k_obj Wh43_ t_a0 (by decide) ?_
  refine k_cWW (kX6_putHead Wh43_ t_a0) (by first | decide | exact fun _ q => q) (fun v45_ h46_ fh46_ qv45_ => ?_)
  have Wh46_ := fh46_.1
  exact k_WW (kX6_write_102 _ _ _ _ Wh46_ t_a0 (by first | omega | assumption | decide) (by first | omega | assumption | decide) (by simp only [sm_fuel_eq]; omega)) (by first | decide | exact fun _ q => q) (fun _ _ _ q => q)

-- fX7_columnCount
set_option maxHeartbeats 4000000 in
theorem kX7_columnCount {G : GT} {a0 : Nat} {h : sm_H} (Wh : Wf G h) (t_a0 : tG G a0 8 0) : kJ (RP G h (fun r : Int32 => True)) (fX7_columnCount a0 h) := by
  have L0 : (0 : Int32).toInt = 0 := rfl
  have L1 : (1 : Int32).toInt = 1 := rfl
  unfold fX7_columnCount
  refine k_gI Wh t_a0 (by decide) rfl (fun x11_ e2_ x11_l x11_u => ?_)
  exact k_rP trivial

-- fX7_hasColumn_2
set_option maxHeartbeats 4000000 in
theorem kX7_hasColumn_2 {G : GT} : ∀ (n : Nat) (a0 : Nat) (a1 : Int32) (a2 : Int32) (h : sm_H), Wf G h → tG G a0 8 0 → 0 ≤ a2.toInt → a2.toInt ≤ 1200 → 1200 - a2.toInt < (n : Int) → kJ (RP G h (fun r : Int32 => r = 0 ∨ r = 1)) (fX7_hasColumn_2 n a0 a1 a2 h) := by
  have L0 : (0 : Int32).toInt = 0 := rfl
  have L1 : (1 : Int32).toInt = 1 := rfl
  intro n
  induction n with
  | zero => intro a0 a1 a2 h Wh t_a0 p0_ p1_ m_; exfalso; omega
  | succ n ih =>
    intro a0 a1 a2 h Wh t_a0 p0_ p1_ m_
    unfold fX7_hasColumn_2
    refine k_gR (r' := 0) Wh t_a0 (by decide) rfl rfl (fun x11_ e2_ tx11_ => ?_)
    refine k_len (B := 40) Wh tx11_ rfl (fun x23_ x23_l x23_u => ?_)
    refine k_le (fun c4_ => ?_) (fun c4_ => ?_)
    · skip
      exact k_rP (by first | assumption | decide)
    · skip
      refine k_kR e2_ ?_
      refine k_aR (c' := 9) Wh tx11_ (by decide) rfl (by first | omega | decide) (by first | omega | decide) (fun x45_ tx45_ => ?_)
      rcases x45_ with _ | x45_s
      · rw [if_pos rfl]
        first | refine k_add (by omega) (by omega) (fun x56_ x56_q => ?_) | refine k_let (fun x56_ => ?_)
        exact ih _ _ _ _ Wh t_a0 (by first | omega | assumption | decide) (by first | omega | assumption | decide) (by omega)
      · rw [if_neg (by simp)]
        have tx45_s := tx45_ x45_s rfl
        refine k_gR (r' := 0) Wh tx45_s (by decide) rfl rfl (fun x67_ e8_ tx67_ => ?_)
        refine k_gR (r' := 0) Wh t_a0 (by decide) rfl rfl (fun x79_ e10_ tx79_ => ?_)
        refine k_obj Wh tx79_ (by decide) ?_
        refine k_cP (kX0_size Wh tx79_) (fun x811_ qx811_ => ?_)
        have x811_l := qx811_.1
        have x811_u := qx811_.2
        refine k_obj Wh tx67_ (by decide) ?_
        refine k_cP (kX0_at Wh tx67_) (fun x1012_ qx1012_ => ?_)
        refine k_if (fun c13_ => ?_) (fun c13_ => ?_)
        · skip
          exact k_rP (by first | assumption | decide)
        · skip
          first | refine k_add (by omega) (by omega) (fun x1214_ x1214_q => ?_) | refine k_let (fun x1214_ => ?_)
          exact ih _ _ _ _ Wh t_a0 (by first | omega | assumption | decide) (by first | omega | assumption | decide) (by omega)

-- fX7_hasColumn
set_option maxHeartbeats 4000000 in
theorem kX7_hasColumn {G : GT} {a0 : Nat} {a1 : Int32} {h : sm_H} (Wh : Wf G h) (t_a0 : tG G a0 8 0) : kJ (RP G h (fun r : Int32 => r = 0 ∨ r = 1)) (fX7_hasColumn a0 a1 h) := by
  have L0 : (0 : Int32).toInt = 0 := rfl
  have L1 : (1 : Int32).toInt = 1 := rfl
  unfold fX7_hasColumn
  exact k_PP (kX7_hasColumn_2 _ _ _ _ _ Wh t_a0 (by first | omega | assumption | decide) (by first | omega | assumption | decide) (by simp only [sm_fuel_eq]; omega)) (fun _ q => q)

-- fX7_addColumn
set_option maxHeartbeats 4000000 in
theorem kX7_addColumn {G : GT} {a0 : Nat} {a1 : Nat} {h : sm_H} (Wh : Wf G h) (t_a0 : tG G a0 8 0) (t_a1 : tG G a1 9 0) : kJ (RW [(8, 0), (24, 0)] G h (fun (r : Unit) (_ : sm_H) => True)) (fX7_addColumn a0 (some a1) h) := by
  have L0 : (0 : Int32).toInt = 0 := rfl
  have L1 : (1 : Int32).toInt = 1 := rfl
  unfold fX7_addColumn
  refine k_gI Wh t_a0 (by decide) rfl (fun x11_ e2_ x11_l x11_u => ?_)
  refine k_lt (fun c3_ => ?_) (fun c3_ => ?_)
  · skip
    exact k_rW Wh trivial
  · skip
    refine k_kI e2_ ?_
    refine k_gR (r' := 0) Wh t_a0 (by decide) rfl rfl (fun x34_ e5_ tx34_ => ?_)
    refine k_len (B := 40) Wh tx34_ rfl (fun x46_ x46_l x46_u => ?_)
    refine k_le (fun c7_ => ?_) (fun c7_ => ?_)
    · skip
      exact k_rW Wh trivial
    · skip
      refine k_kR e5_ ?_
      refine k_kI e2_ ?_
      refine k_W tx34_ (by first | decide | simp) (w_sR Wh tx34_ (by decide) (by decide) rfl (by first | omega | decide) (by first | omega | decide) (tN_s t_a1)) (fun h8_ oh8_ _ => ?_)
      have Wh8_ := oh8_.1
      have e9_ := kg_fr (oh8_.2.2.2 _ (tg_ne t_a0 tx34_ (by simp))) e2_
      refine k_kI e9_ ?_
      refine k_W t_a0 (by first | decide | simp) (w_putI Wh8_ t_a0 (by decide) rfl (i_lo _) (i_hi _)) (fun h10_ oh10_ xh10_ => ?_)
      have Wh10_ := oh10_.1
      exact k_rW Wh10_ trivial

-- fX7_indexAbove_7
set_option maxHeartbeats 4000000 in
theorem kX7_indexAbove_7 {G : GT} : ∀ (n : Nat) (a0 : Nat) (a1 : Int64) (a3 : Int64) (a5 : Int32) (h : sm_H), Wf G h → tG G a0 8 0 → 0 ≤ a5.toInt → a5.toInt ≤ 1200 → 1200 - a5.toInt < (n : Int) → kJ (RP G h (fun r : Int64 => True)) (fX7_indexAbove_7 n a0 a1 a3 a5 h) := by
  have L0 : (0 : Int32).toInt = 0 := rfl
  have L1 : (1 : Int32).toInt = 1 := rfl
  intro n
  induction n with
  | zero => intro a0 a1 a3 a5 h Wh t_a0 p0_ p1_ m_; exfalso; omega
  | succ n ih =>
    intro a0 a1 a3 a5 h Wh t_a0 p0_ p1_ m_
    unfold fX7_indexAbove_7
    refine k_gR (r' := 0) Wh t_a0 (by decide) rfl rfl (fun x11_ e2_ tx11_ => ?_)
    refine k_len (B := 1200) Wh tx11_ rfl (fun x23_ x23_l x23_u => ?_)
    refine k_le (fun c4_ => ?_) (fun c4_ => ?_)
    · skip
      exact k_rP trivial
    · skip
      refine k_kR e2_ ?_
      refine k_aI Wh tx11_ (by decide) (by first | omega | decide) (by first | omega | decide) (fun x45_ => ?_)
      refine k_let (fun x56_ => ?_)
      refine k_l1 (fun c7_ => ?_) (fun c7_ => ?_)
      · skip
        first | refine k_add (by omega) (by omega) (fun x68_ x68_q => ?_) | refine k_let (fun x68_ => ?_)
        exact ih _ _ _ _ _ Wh t_a0 (by first | omega | assumption | decide) (by first | omega | assumption | decide) (by omega)
      · skip
        refine k_l2 (fun c9_ => ?_) (fun c9_ => ?_)
        · skip
          first | refine k_add (by omega) (by omega) (fun x710_ x710_q => ?_) | refine k_let (fun x710_ => ?_)
          exact ih _ _ _ _ _ Wh t_a0 (by first | omega | assumption | decide) (by first | omega | assumption | decide) (by omega)
        · skip
          refine k_l1 (fun c11_ => ?_) (fun c11_ => ?_)
          · skip
            first | refine k_add (by omega) (by omega) (fun x812_ x812_q => ?_) | refine k_let (fun x812_ => ?_)
            exact ih _ _ _ _ _ Wh t_a0 (by first | omega | assumption | decide) (by first | omega | assumption | decide) (by omega)
          · skip
            refine k_l4 (fun c13_ => ?_) (fun c13_ => ?_)
            · skip
              first | refine k_add (by omega) (by omega) (fun x914_ x914_q => ?_) | refine k_let (fun x914_ => ?_)
              exact ih _ _ _ _ _ Wh t_a0 (by first | omega | assumption | decide) (by first | omega | assumption | decide) (by omega)
            · skip
              first | refine k_add (by omega) (by omega) (fun x1015_ x1015_q => ?_) | refine k_let (fun x1015_ => ?_)
              exact ih _ _ _ _ _ Wh t_a0 (by first | omega | assumption | decide) (by first | omega | assumption | decide) (by omega)

-- fX7_indexAbove
set_option maxHeartbeats 4000000 in
theorem kX7_indexAbove {G : GT} {a0 : Nat} {a1 : Int64} {h : sm_H} (Wh : Wf G h) (t_a0 : tG G a0 8 0) : kJ (RP G h (fun r : Int64 => True)) (fX7_indexAbove a0 a1 h) := by
  have L0 : (0 : Int32).toInt = 0 := rfl
  have L1 : (1 : Int32).toInt = 1 := rfl
  unfold fX7_indexAbove
  exact k_PP (kX7_indexAbove_7 _ _ _ _ _ _ Wh t_a0 (by first | omega | assumption | decide) (by first | omega | assumption | decide) (by simp only [sm_fuel_eq]; omega)) (fun _ q => q)

-- fX8_tellsClock
set_option maxHeartbeats 4000000 in
theorem kX8_tellsClock {G : GT} {a0 : Nat} {h : sm_H} (Wh : Wf G h) (t_a0 : tG G a0 9 0) : kJ (RP G h (fun r : Int32 => r = 0 ∨ r = 1)) (fX8_tellsClock a0 h) := by
  have L0 : (0 : Int32).toInt = 0 := rfl
  have L1 : (1 : Int32).toInt = 1 := rfl
  have L67 : (67 : Int32).toInt = 67 := rfl
  unfold fX8_tellsClock
  refine k_gN (r' := 0) Wh t_a0 (by decide) rfl rfl (fun x11_ e2_ tx11_ => ?_)
  rcases x11_ with _ | x11_s
  · rw [if_pos rfl]
    refine k_gI Wh t_a0 (by decide) rfl (fun x23_ e4_ x23_l x23_u => ?_)
    refine k_if (fun c5_ => ?_) (fun c5_ => ?_)
    · skip
      refine k_gI Wh t_a0 (by decide) rfl (fun x36_ e7_ x36_l x36_u => ?_)
      refine k_if (fun c8_ => ?_) (fun c8_ => ?_)
      · skip
        exact k_rP (by first | assumption | decide)
      · skip
        exact k_rP (by first | assumption | decide)
    · skip
      exact k_rP (by first | assumption | decide)
  · rw [if_neg (by simp)]
    have tx11_s := tx11_ x11_s rfl
    exact k_rP (by first | assumption | decide)

-- fX8_indexAbove
set_option maxHeartbeats 4000000 in
theorem kX8_indexAbove {G : GT} {a0 : Nat} {a1 : Int64} {h : sm_H} (Wh : Wf G h) (t_a0 : tG G a0 9 0) : kJ (RP G h (fun r : Int64 => True)) (fX8_indexAbove a0 a1 h) := by
  have L0 : (0 : Int32).toInt = 0 := rfl
  have L1 : (1 : Int32).toInt = 1 := rfl
  unfold fX8_indexAbove
  refine k_gN (r' := 0) Wh t_a0 (by decide) rfl rfl (fun x11_ e2_ tx11_ => ?_)
  rcases x11_ with _ | x11_s
  · rw [if_pos rfl]
    refine k_l4 (fun c3_ => ?_) (fun c3_ => ?_)
    · skip
      exact k_rP trivial
    · skip
      exact k_rP trivial
  · rw [if_neg (by simp)]
    have tx11_s := tx11_ x11_s rfl
    refine k_kR e2_ ?_
    refine k_obj Wh tx11_s (by decide) ?_
    refine k_cP (kX7_indexAbove Wh tx11_s) (fun x34_ qx34_ => ?_)
    exact k_rP trivial

-- fX8_passedBy
set_option maxHeartbeats 4000000 in
theorem kX8_passedBy {G : GT} {r_a1 : Nat} {a0 : Nat} {a1 : Nat} {h : sm_H} (Wh : Wf G h) (t_a0 : tG G a0 9 0) (t_a1 : tG G a1 1 r_a1) : kJ (RP G h (fun r : Int64 => True)) (fX8_passedBy a0 (some a1) h) := by
  have L0 : (0 : Int32).toInt = 0 := rfl
  have L1 : (1 : Int32).toInt = 1 := rfl
  unfold fX8_passedBy
  refine k_gR (r' := 0) Wh t_a0 (by decide) rfl rfl (fun x11_ e2_ tx11_ => ?_)
  refine k_obj Wh t_a1 (by decide) ?_
  refine k_cP (kX0_beginsWith Wh t_a1 tx11_) (fun x23_ qx23_ => ?_)
  refine k_if (fun c4_ => ?_) (fun c4_ => ?_)
  · skip
    refine k_kR e2_ ?_
    refine k_obj Wh t_a1 (by decide) ?_
    refine k_cP (kX0_isLess Wh t_a1 tx11_) (fun x55_ qx55_ => ?_)
    refine k_if (fun c6_ => ?_) (fun c6_ => ?_)
    · skip
      exact k_rP trivial
    · skip
      exact k_rP trivial
  · skip
    refine k_kR e2_ ?_
    refine k_obj Wh tx11_ (by decide) ?_
    refine k_cP (kX0_size Wh tx11_) (fun x97_ qx97_ => ?_)
    have x97_l := qx97_.1
    have x97_u := qx97_.2
    refine k_obj Wh t_a1 (by decide) ?_
    refine k_cP (kX0_at Wh t_a1) (fun x118_ qx118_ => ?_)
    exact k_rP trivial

-- fX9_thingCount
set_option maxHeartbeats 4000000 in
theorem kX9_thingCount {G : GT} {a0 : Nat} {h : sm_H} (Wh : Wf G h) (t_a0 : tG G a0 10 0) : kJ (RP G h (fun r : Int32 => 0 ≤ r.toInt ∧ r.toInt ≤ 40)) (fX9_thingCount a0 h) := by
  have L0 : (0 : Int32).toInt = 0 := rfl
  have L1 : (1 : Int32).toInt = 1 := rfl
  unfold fX9_thingCount
  refine k_gI Wh t_a0 (by decide) rfl (fun x11_ e2_ x11_l x11_u => ?_)
  exact k_rP ⟨by first | omega | decide, by first | omega | decide⟩

-- fX9_tableCount
set_option maxHeartbeats 4000000 in
theorem kX9_tableCount {G : GT} {a0 : Nat} {h : sm_H} (Wh : Wf G h) (t_a0 : tG G a0 10 0) : kJ (RP G h (fun r : Int32 => 0 ≤ r.toInt ∧ r.toInt ≤ 4)) (fX9_tableCount a0 h) := by
  have L0 : (0 : Int32).toInt = 0 := rfl
  have L1 : (1 : Int32).toInt = 1 := rfl
  unfold fX9_tableCount
  refine k_gI Wh t_a0 (by decide) rfl (fun x11_ e2_ x11_l x11_u => ?_)
  exact k_rP ⟨by first | omega | decide, by first | omega | decide⟩

-- fX9_thingInOrder
set_option maxHeartbeats 4000000 in
theorem kX9_thingInOrder {G : GT} {a0 : Nat} {a1 : Int32} {h : sm_H} (Wh : Wf G h) (t_a0 : tG G a0 10 0) : kJ (RP G h (fun r : Option Nat => tN G r 9 0)) (fX9_thingInOrder a0 a1 h) := by
  have L0 : (0 : Int32).toInt = 0 := rfl
  have L1 : (1 : Int32).toInt = 1 := rfl
  unfold fX9_thingInOrder
  refine k_lt (fun c1_ => ?_) (fun c1_ => ?_)
  · skip
    exact k_rP tN_n
  · skip
    refine k_gR (r' := 0) Wh t_a0 (by decide) rfl rfl (fun x12_ e3_ tx12_ => ?_)
    refine k_len (B := 40) Wh tx12_ rfl (fun x24_ x24_l x24_u => ?_)
    refine k_le (fun c5_ => ?_) (fun c5_ => ?_)
    · skip
      exact k_rP tN_n
    · skip
      refine k_kR e3_ ?_
      refine k_aR (c' := 9) Wh tx12_ (by decide) rfl (by first | omega | decide) (by first | omega | decide) (fun x46_ tx46_ => ?_)
      exact k_rP tx46_

-- fX9_tableAt
set_option maxHeartbeats 4000000 in
theorem kX9_tableAt {G : GT} {a0 : Nat} {a1 : Int32} {h : sm_H} (Wh : Wf G h) (t_a0 : tG G a0 10 0) : kJ (RP G h (fun r : Option Nat => tN G r 8 0)) (fX9_tableAt a0 a1 h) := by
  have L0 : (0 : Int32).toInt = 0 := rfl
  have L1 : (1 : Int32).toInt = 1 := rfl
  unfold fX9_tableAt
  refine k_lt (fun c1_ => ?_) (fun c1_ => ?_)
  · skip
    exact k_rP tN_n
  · skip
    refine k_gR (r' := 0) Wh t_a0 (by decide) rfl rfl (fun x12_ e3_ tx12_ => ?_)
    refine k_len (B := 4) Wh tx12_ rfl (fun x24_ x24_l x24_u => ?_)
    refine k_le (fun c5_ => ?_) (fun c5_ => ?_)
    · skip
      exact k_rP tN_n
    · skip
      refine k_kR e3_ ?_
      refine k_aR (c' := 8) Wh tx12_ (by decide) rfl (by first | omega | decide) (by first | omega | decide) (fun x46_ tx46_ => ?_)
      exact k_rP tx46_

-- fX9_isTaken_52
set_option maxHeartbeats 4000000 in
theorem kX9_isTaken_52 {G : GT} {r_a1 : Nat} : ∀ (n : Nat) (a0 : Nat) (a1 : Nat) (a2 : Int32) (h : sm_H), Wf G h → tG G a0 10 0 → tG G a1 1 r_a1 → 0 ≤ a2.toInt → a2.toInt ≤ 1200 → 1200 - a2.toInt < (n : Int) → kJ (RP G h (fun r : Int32 => r = 0 ∨ r = 1)) (fX9_isTaken_52 n a0 (some a1) a2 h) := by
  have L0 : (0 : Int32).toInt = 0 := rfl
  have L1 : (1 : Int32).toInt = 1 := rfl
  intro n
  induction n with
  | zero => intro a0 a1 a2 h Wh t_a0 t_a1 p0_ p1_ m_; exfalso; omega
  | succ n ih =>
    intro a0 a1 a2 h Wh t_a0 t_a1 p0_ p1_ m_
    unfold fX9_isTaken_52
    refine k_gI Wh t_a0 (by decide) rfl (fun x11_ e2_ x11_l x11_u => ?_)
    refine k_le (fun c3_ => ?_) (fun c3_ => ?_)
    · skip
      exact k_rP (by first | assumption | decide)
    · skip
      refine k_obj Wh t_a0 (by decide) ?_
      refine k_cP (kX9_tableAt Wh t_a0) (fun x24_ qx24_ => ?_)
      rcases x24_ with _ | x24_s
      · rw [if_pos rfl]
        first | refine k_add (by omega) (by omega) (fun x45_ x45_q => ?_) | refine k_let (fun x45_ => ?_)
        exact ih _ _ _ _ Wh t_a0 t_a1 (by first | omega | assumption | decide) (by first | omega | assumption | decide) (by omega)
      · rw [if_neg (by simp)]
        have tx24_s := qx24_ x24_s rfl
        refine k_gR (r' := 0) Wh tx24_s (by decide) rfl rfl (fun x56_ e7_ tx56_ => ?_)
        refine k_obj Wh t_a1 (by decide) ?_
        refine k_cP (kX0_beginsWith Wh t_a1 tx56_) (fun x68_ qx68_ => ?_)
        refine k_if (fun c9_ => ?_) (fun c9_ => ?_)
        · skip
          refine k_kR e7_ ?_
          refine k_obj Wh tx56_ (by decide) ?_
          refine k_cP (kX0_beginsWith Wh tx56_ t_a1) (fun x910_ qx910_ => ?_)
          refine k_if (fun c11_ => ?_) (fun c11_ => ?_)
          · skip
            first | refine k_add (by omega) (by omega) (fun x1112_ x1112_q => ?_) | refine k_let (fun x1112_ => ?_)
            exact ih _ _ _ _ Wh t_a0 t_a1 (by first | omega | assumption | decide) (by first | omega | assumption | decide) (by omega)
          · skip
            exact k_rP (by first | assumption | decide)
        · skip
          exact k_rP (by first | assumption | decide)

-- fX9_isTaken_2
set_option maxHeartbeats 4000000 in
theorem kX9_isTaken_2 {G : GT} {r_a1 : Nat} : ∀ (n : Nat) (a0 : Nat) (a1 : Nat) (a2 : Int32) (h : sm_H), Wf G h → tG G a0 10 0 → tG G a1 1 r_a1 → 0 ≤ a2.toInt → a2.toInt ≤ 1200 → 1200 - a2.toInt < (n : Int) → kJ (RP G h (fun r : Int32 => r = 0 ∨ r = 1)) (fX9_isTaken_2 n a0 (some a1) a2 h) := by
  have L0 : (0 : Int32).toInt = 0 := rfl
  have L1 : (1 : Int32).toInt = 1 := rfl
  intro n
  induction n with
  | zero => intro a0 a1 a2 h Wh t_a0 t_a1 p0_ p1_ m_; exfalso; omega
  | succ n ih =>
    intro a0 a1 a2 h Wh t_a0 t_a1 p0_ p1_ m_
    unfold fX9_isTaken_2
    refine k_gI Wh t_a0 (by decide) rfl (fun x11_ e2_ x11_l x11_u => ?_)
    refine k_le (fun c3_ => ?_) (fun c3_ => ?_)
    · skip
      exact k_PP (kX9_isTaken_52 _ _ _ _ _ Wh t_a0 t_a1 (by first | omega | assumption | decide) (by first | omega | assumption | decide) (by simp only [sm_fuel_eq]; omega)) (fun _ q => q)
    · skip
      refine k_obj Wh t_a0 (by decide) ?_
      refine k_cP (kX9_thingAt Wh t_a0) (fun x24_ qx24_ => ?_)
      rcases x24_ with _ | x24_s
      · rw [if_pos rfl]
        first | refine k_add (by omega) (by omega) (fun x45_ x45_q => ?_) | refine k_let (fun x45_ => ?_)
        exact ih _ _ _ _ Wh t_a0 t_a1 (by first | omega | assumption | decide) (by first | omega | assumption | decide) (by omega)
      · rw [if_neg (by simp)]
        have tx24_s := qx24_ x24_s rfl
        refine k_gR (r' := 0) Wh tx24_s (by decide) rfl rfl (fun x56_ e7_ tx56_ => ?_)
        refine k_obj Wh t_a1 (by decide) ?_
        refine k_cP (kX0_beginsWith Wh t_a1 tx56_) (fun x68_ qx68_ => ?_)
        refine k_if (fun c9_ => ?_) (fun c9_ => ?_)
        · skip
          refine k_kR e7_ ?_
          refine k_obj Wh tx56_ (by decide) ?_
          refine k_cP (kX0_beginsWith Wh tx56_ t_a1) (fun x910_ qx910_ => ?_)
          refine k_if (fun c11_ => ?_) (fun c11_ => ?_)
          · skip
            first | refine k_add (by omega) (by omega) (fun x1112_ x1112_q => ?_) | refine k_let (fun x1112_ => ?_)
            exact ih _ _ _ _ Wh t_a0 t_a1 (by first | omega | assumption | decide) (by first | omega | assumption | decide) (by omega)
          · skip
            exact k_rP (by first | assumption | decide)
        · skip
          exact k_rP (by first | assumption | decide)
