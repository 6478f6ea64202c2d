-- fX0_size
set_option maxHeartbeats 4000000 in
theorem kX0_size {G : GT} {r_a0 : Nat} {a0 : Nat} {h : sm_H} (Wh : Wf G h) (t_a0 : tG G a0 1 r_a0) : kJ (RP G h (fun r : Int32 => 0 ≤ r.toInt ∧ r.toInt ≤ 1200)) (fX0_size a0 h) := by
  have L0 : (0 : Int32).toInt = 0 := rfl
  have L1 : (1 : Int32).toInt = 1 := rfl
  unfold fX0_size
  refine k_gI Wh t_a0 (by decide) rfl (fun x11_ e2_ x11_l x11_u => ?_)
  exact k_rP ⟨by first | omega | decide, by first | omega | decide⟩

-- fX0_at
set_option maxHeartbeats 4000000 in
theorem kX0_at {G : GT} {r_a0 : Nat} {a0 : Nat} {a1 : Int32} {h : sm_H} (Wh : Wf G h) (t_a0 : tG G a0 1 r_a0) : kJ (RP G h (fun r : Int64 => True)) (fX0_at a0 a1 h) := by
  have L0 : (0 : Int32).toInt = 0 := rfl
  have L1 : (1 : Int32).toInt = 1 := rfl
  unfold fX0_at
  refine k_lt (fun c1_ => ?_) (fun c1_ => ?_)
  · skip
    exact k_rP trivial
  · skip
    refine k_gI Wh t_a0 (by decide) rfl (fun x12_ e3_ x12_l x12_u => ?_)
    refine k_le (fun c4_ => ?_) (fun c4_ => ?_)
    · skip
      exact k_rP trivial
    · skip
      refine k_gR (r' := r_a0) Wh t_a0 (by decide) rfl rfl (fun x25_ e6_ tx25_ => ?_)
      refine k_len (B := 1200) Wh tx25_ rfl (fun x37_ x37_l x37_u => ?_)
      refine k_le (fun c8_ => ?_) (fun c8_ => ?_)
      · skip
        exact k_rP trivial
      · skip
        refine k_kR e6_ ?_
        refine k_aJ Wh tx25_ (by first | omega | decide) (by first | omega | decide) (fun x59_ => ?_)
        exact k_rP trivial

-- fX0_add
set_option maxHeartbeats 4000000 in
theorem kX0_add {G : GT} {r_a0 : Nat} {a0 : Nat} {a1 : Int64} {h : sm_H} (Wh : Wf G h) (t_a0 : tG G a0 1 r_a0) : kJ (RW [(1, r_a0), (21, r_a0)] G h (fun (r : Int32) (_ : sm_H) => r = 0 ∨ r = 1)) (fX0_add a0 a1 h) := by
  have L0 : (0 : Int32).toInt = 0 := rfl
  have L1 : (1 : Int32).toInt = 1 := rfl
  unfold fX0_add
  refine k_gI Wh t_a0 (by decide) rfl (fun x11_ e2_ x11_l x11_u => ?_)
  refine k_lt (fun c3_ => ?_) (fun c3_ => ?_)
  · skip
    exact k_rW Wh (by first | assumption | decide)
  · skip
    refine k_kI e2_ ?_
    refine k_gR (r' := r_a0) Wh t_a0 (by decide) rfl rfl (fun x34_ e5_ tx34_ => ?_)
    refine k_len (B := 1200) Wh tx34_ rfl (fun x46_ x46_l x46_u => ?_)
    refine k_lt (fun c7_ => ?_) (fun c7_ => ?_)
    · skip
      refine k_kR e5_ ?_
      refine k_kI e2_ ?_
      refine k_W tx34_ (by first | decide | simp) (w_sJ Wh tx34_ (by first | omega | decide) (by first | omega | decide)) (fun h8_ oh8_ _ => ?_)
      have Wh8_ := oh8_.1
      have e9_ := kg_fr (oh8_.2.2.2 _ (tg_ne t_a0 tx34_ (by simp))) e2_
      refine k_kI e9_ ?_
      refine k_W t_a0 (by first | decide | simp) (w_putI Wh8_ t_a0 (by decide) rfl (by first | omega | (rw [i_add1 (by omega)]; omega) | decide) (by first | omega | (rw [i_add1 (by omega)]; omega) | decide)) (fun h10_ oh10_ xh10_ => ?_)
      have Wh10_ := oh10_.1
      exact k_rW Wh10_ (by first | assumption | decide)
    · skip
      exact k_rW Wh (by first | assumption | decide)

-- fX0_clear
set_option maxHeartbeats 4000000 in
theorem kX0_clear {G : GT} {r_a0 : Nat} {a0 : Nat} {h : sm_H} (Wh : Wf G h) (t_a0 : tG G a0 1 r_a0) : kJ (RW [(1, r_a0)] G h (fun (r : Unit) (_ : sm_H) => True)) (fX0_clear a0 h) := by
  have L0 : (0 : Int32).toInt = 0 := rfl
  have L1 : (1 : Int32).toInt = 1 := rfl
  unfold fX0_clear
  refine k_W t_a0 (by first | decide | simp) (w_putI Wh t_a0 (by decide) rfl (by first | omega | (rw [i_add1 (by omega)]; omega) | decide) (by first | omega | (rw [i_add1 (by omega)]; omega) | decide)) (fun h1_ oh1_ xh1_ => ?_)
  have Wh1_ := oh1_.1
  exact k_rW Wh1_ trivial

-- fX0_copy_13
set_option maxHeartbeats 4000000 in
theorem kX0_copy_13 {G : GT} {r_a0 : Nat} {r_a1 : Nat} : ∀ (n : Nat) (a0 : Nat) (a1 : Nat) (a2 : Int32) (h : sm_H), Wf G h → tG G a0 1 r_a0 → tG G a1 1 r_a1 → 0 ≤ a2.toInt → a2.toInt ≤ 1200 → 1200 - a2.toInt < (n : Int) → kJ (RW [(1, r_a0), (21, r_a0)] G h (fun (r : Unit) (_ : sm_H) => True)) (fX0_copy_13 n a0 (some a1) a2 h) := by
  have L0 : (0 : Int32).toInt = 0 := rfl
  have L1 : (1 : Int32).toInt = 1 := rfl
  intro n
  induction n with
  | zero => intro a0 a1 a2 h Wh t_a0 t_a1 p0_ p1_ m_; exfalso; omega
  | succ n ih =>
    intro a0 a1 a2 h Wh t_a0 t_a1 p0_ p1_ m_
    unfold fX0_copy_13
    refine k_gI Wh t_a1 (by decide) rfl (fun x11_ e2_ x11_l x11_u => ?_)
    refine k_le (fun c3_ => ?_) (fun c3_ => ?_)
    · skip
      exact k_rW Wh trivial
    · skip
      refine k_obj Wh t_a1 (by decide) ?_
      refine k_cP (kX0_at Wh t_a1) (fun x24_ qx24_ => ?_)
      refine k_obj Wh t_a0 (by decide) ?_
      refine k_cWW (kX0_add Wh t_a0) (by first | decide | exact fun _ q => q) (fun x45_ h6_ fh6_ qx45_ => ?_)
      have Wh6_ := fh6_.1
      first | refine k_add (by omega) (by omega) (fun x67_ x67_q => ?_) | refine k_let (fun x67_ => ?_)
      exact ih _ _ _ _ Wh6_ t_a0 t_a1 (by first | omega | assumption | decide) (by first | omega | assumption | decide) (by omega)

-- fX0_copy
set_option maxHeartbeats 4000000 in
theorem kX0_copy {G : GT} {r_a0 : Nat} {r_a1 : Nat} {a0 : Nat} {a1 : Nat} {h : sm_H} (Wh : Wf G h) (t_a0 : tG G a0 1 r_a0) (t_a1 : tG G a1 1 r_a1) : kJ (RW [(1, r_a0), (21, r_a0)] G h (fun (r : Unit) (_ : sm_H) => True)) (fX0_copy a0 (some a1) h) := by
  have L0 : (0 : Int32).toInt = 0 := rfl
  have L1 : (1 : Int32).toInt = 1 := rfl
  unfold fX0_copy
  refine k_if (fun c1_ => ?_) (fun c1_ => ?_)
  · skip
    exact k_rW Wh trivial
  · skip
    refine k_W t_a0 (by first | decide | simp) (w_putI Wh t_a0 (by decide) rfl (by first | omega | (rw [i_add1 (by omega)]; omega) | decide) (by first | omega | (rw [i_add1 (by omega)]; omega) | decide)) (fun h2_ oh2_ xh2_ => ?_)
    have Wh2_ := oh2_.1
    exact k_WW (kX0_copy_13 _ _ _ _ _ Wh2_ t_a0 t_a1 (by first | omega | assumption | decide) (by first | omega | assumption | decide) (by simp only [sm_fuel_eq]; omega)) (by first | decide | exact fun _ q => q) (fun _ _ _ q => q)

-- fX0_beginsWith_15
set_option maxHeartbeats 4000000 in
theorem kX0_beginsWith_15 {G : GT} {r_a0 : Nat} {r_a1 : Nat} : ∀ (n : Nat) (a0 : Nat) (a1 : Nat) (a2 : Int32) (h : sm_H), Wf G h → tG G a0 1 r_a0 → tG G a1 1 r_a1 → 0 ≤ a2.toInt → a2.toInt ≤ 1200 → 1200 - a2.toInt < (n : Int) → kJ (RP G h (fun r : Int32 => r = 0 ∨ r = 1)) (fX0_beginsWith_15 n a0 (some a1) a2 h) := by
  have L0 : (0 : Int32).toInt = 0 := rfl
  have L1 : (1 : Int32).toInt = 1 := rfl
  intro n
  induction n with
  | zero => intro a0 a1 a2 h Wh t_a0 t_a1 p0_ p1_ m_; exfalso; omega
  | succ n ih =>
    intro a0 a1 a2 h Wh t_a0 t_a1 p0_ p1_ m_
    unfold fX0_beginsWith_15
    refine k_gI Wh t_a1 (by decide) rfl (fun x11_ e2_ x11_l x11_u => ?_)
    refine k_le (fun c3_ => ?_) (fun c3_ => ?_)
    · skip
      exact k_rP (by first | assumption | decide)
    · skip
      refine k_obj Wh t_a0 (by decide) ?_
      refine k_cP (kX0_at Wh t_a0) (fun x24_ qx24_ => ?_)
      refine k_obj Wh t_a1 (by decide) ?_
      refine k_cP (kX0_at Wh t_a1) (fun x45_ qx45_ => ?_)
      refine k_if (fun c6_ => ?_) (fun c6_ => ?_)
      · skip
        first | refine k_add (by omega) (by omega) (fun x67_ x67_q => ?_) | refine k_let (fun x67_ => ?_)
        exact ih _ _ _ _ Wh t_a0 t_a1 (by first | omega | assumption | decide) (by first | omega | assumption | decide) (by omega)
      · skip
        exact k_rP (by first | assumption | decide)

-- fX0_beginsWith
set_option maxHeartbeats 4000000 in
theorem kX0_beginsWith {G : GT} {r_a0 : Nat} {r_a1 : Nat} {a0 : Nat} {a1 : Nat} {h : sm_H} (Wh : Wf G h) (t_a0 : tG G a0 1 r_a0) (t_a1 : tG G a1 1 r_a1) : kJ (RP G h (fun r : Int32 => r = 0 ∨ r = 1)) (fX0_beginsWith a0 (some a1) h) := by
  have L0 : (0 : Int32).toInt = 0 := rfl
  have L1 : (1 : Int32).toInt = 1 := rfl
  unfold fX0_beginsWith
  refine k_gI Wh t_a0 (by decide) rfl (fun x11_ e2_ x11_l x11_u => ?_)
  refine k_gI Wh t_a1 (by decide) rfl (fun x23_ e4_ x23_l x23_u => ?_)
  refine k_le (fun c5_ => ?_) (fun c5_ => ?_)
  · skip
    exact k_PP (kX0_beginsWith_15 _ _ _ _ _ Wh t_a0 t_a1 (by first | omega | assumption | decide) (by first | omega | assumption | decide) (by simp only [sm_fuel_eq]; omega)) (fun _ q => q)
  · skip
    exact k_rP (by first | assumption | decide)

-- fX0_isSame
set_option maxHeartbeats 4000000 in
theorem kX0_isSame {G : GT} {r_a0 : Nat} {r_a1 : Nat} {a0 : Nat} {a1 : Nat} {h : sm_H} (Wh : Wf G h) (t_a0 : tG G a0 1 r_a0) (t_a1 : tG G a1 1 r_a1) : kJ (RP G h (fun r : Int32 => r = 0 ∨ r = 1)) (fX0_isSame a0 (some a1) h) := by
  have L0 : (0 : Int32).toInt = 0 := rfl
  have L1 : (1 : Int32).toInt = 1 := rfl
  unfold fX0_isSame
  refine k_gI Wh t_a0 (by decide) rfl (fun x11_ e2_ x11_l x11_u => ?_)
  refine k_gI Wh t_a1 (by decide) rfl (fun x23_ e4_ x23_l x23_u => ?_)
  refine k_if (fun c5_ => ?_) (fun c5_ => ?_)
  · skip
    refine k_obj Wh t_a0 (by decide) ?_
    refine k_cP (kX0_beginsWith Wh t_a0 t_a1) (fun x36_ qx36_ => ?_)
    refine k_if (fun c7_ => ?_) (fun c7_ => ?_)
    · skip
      exact k_rP (by first | assumption | decide)
    · skip
      exact k_rP (by first | assumption | decide)
  · skip
    exact k_rP (by first | assumption | decide)

-- fX0_isLess_14
set_option maxHeartbeats 4000000 in
theorem kX0_isLess_14 {G : GT} {r_a0 : Nat} {r_a1 : Nat} : ∀ (n : Nat) (a0 : Nat) (a1 : Nat) (a2 : Int32) (a3 : Int32) (h : sm_H), Wf G h → tG G a0 1 r_a0 → tG G a1 1 r_a1 → 0 ≤ a3.toInt → a3.toInt ≤ 1200 → a2.toInt ≤ 1200 → 1200 - a3.toInt < (n : Int) → kJ (RP G h (fun r : Int32 => r = 0 ∨ r = 1)) (fX0_isLess_14 n a0 (some a1) a2 a3 h) := by
  have L0 : (0 : Int32).toInt = 0 := rfl
  have L1 : (1 : Int32).toInt = 1 := rfl
  intro n
  induction n with
  | zero => intro a0 a1 a2 a3 h Wh t_a0 t_a1 p0_ p1_ p2_ m_; exfalso; omega
  | succ n ih =>
    intro a0 a1 a2 a3 h Wh t_a0 t_a1 p0_ p1_ p2_ m_
    unfold fX0_isLess_14
    refine k_le (fun c1_ => ?_) (fun c1_ => ?_)
    · skip
      refine k_gI Wh t_a0 (by decide) rfl (fun x12_ e3_ x12_l x12_u => ?_)
      refine k_gI Wh t_a1 (by decide) rfl (fun x24_ e5_ x24_l x24_u => ?_)
      refine k_le (fun c6_ => ?_) (fun c6_ => ?_)
      · skip
        exact k_rP (by first | assumption | decide)
      · skip
        exact k_rP (by first | assumption | decide)
    · skip
      refine k_obj Wh t_a0 (by decide) ?_
      refine k_cP (kX0_at Wh t_a0) (fun x37_ qx37_ => ?_)
      refine k_obj Wh t_a1 (by decide) ?_
      refine k_cP (kX0_at Wh t_a1) (fun x58_ qx58_ => ?_)
      refine k_if (fun c9_ => ?_) (fun c9_ => ?_)
      · skip
        first | refine k_add (by omega) (by omega) (fun x710_ x710_q => ?_) | refine k_let (fun x710_ => ?_)
        exact ih _ _ _ _ _ Wh t_a0 t_a1 (by first | omega | assumption | decide) (by first | omega | assumption | decide) (by first | omega | assumption | decide) (by omega)
      · skip
        refine k_obj Wh t_a0 (by decide) ?_
        refine k_cP (kX0_at Wh t_a0) (fun x811_ qx811_ => ?_)
        refine k_obj Wh t_a1 (by decide) ?_
        refine k_cP (kX0_at Wh t_a1) (fun x1012_ qx1012_ => ?_)
        refine k_l4 (fun c13_ => ?_) (fun c13_ => ?_)
        · skip
          exact k_rP (by first | assumption | decide)
        · skip
          exact k_rP (by first | assumption | decide)

-- fX0_isLess
set_option maxHeartbeats 4000000 in
theorem kX0_isLess {G : GT} {r_a0 : Nat} {r_a1 : Nat} {a0 : Nat} {a1 : Nat} {h : sm_H} (Wh : Wf G h) (t_a0 : tG G a0 1 r_a0) (t_a1 : tG G a1 1 r_a1) : kJ (RP G h (fun r : Int32 => r = 0 ∨ r = 1)) (fX0_isLess a0 (some a1) h) := by
  have L0 : (0 : Int32).toInt = 0 := rfl
  have L1 : (1 : Int32).toInt = 1 := rfl
  unfold fX0_isLess
  refine k_gI Wh t_a0 (by decide) rfl (fun x11_ e2_ x11_l x11_u => ?_)
  refine k_gI Wh t_a1 (by decide) rfl (fun x23_ e4_ x23_l x23_u => ?_)
  refine k_ltl (fun x35_ x35_q => ?_)
  exact k_PP (kX0_isLess_14 _ _ _ _ _ _ Wh t_a0 t_a1 (by first | omega | assumption | decide) (by first | omega | assumption | decide) (by first | omega | assumption | decide) (by simp only [sm_fuel_eq]; omega)) (fun _ q => q)

-- fX3_pairAt
set_option maxHeartbeats 4000000 in
theorem kX3_pairAt {G : GT} {a0 : Nat} {a1 : Int32} {h : sm_H} (Wh : Wf G h) (t_a0 : tG G a0 4 0) : kJ (RP G h (fun r : Option Nat => tN G r 5 0)) (fX3_pairAt a0 a1 h) := by
  have L0 : (0 : Int32).toInt = 0 := rfl
  have L1 : (1 : Int32).toInt = 1 := rfl
  unfold fX3_pairAt
  refine k_lt (fun c1_ => ?_) (fun c1_ => ?_)
  · skip
    exact k_rP tN_n
  · skip
    refine k_gR (r' := 0) Wh t_a0 (by decide) rfl rfl (fun x12_ e3_ tx12_ => ?_)
    refine k_len (B := 40) Wh tx12_ rfl (fun x24_ x24_l x24_u => ?_)
    refine k_le (fun c5_ => ?_) (fun c5_ => ?_)
    · skip
      exact k_rP tN_n
    · skip
      refine k_kR e3_ ?_
      refine k_aR (c' := 5) Wh tx12_ (by decide) rfl (by first | omega | decide) (by first | omega | decide) (fun x46_ tx46_ => ?_)
      exact k_rP tx46_

-- fX2_shows_7
set_option maxHeartbeats 4000000 in
theorem kX2_shows_7 {G : GT} {r_a1 : Nat} : ∀ (n : Nat) (a0 : Nat) (a1 : Nat) (a2 : Int32) (a3 : Int32) (a4 : Int32) (h : sm_H), Wf G h → tG G a0 3 0 → tG G a1 1 r_a1 → 0 ≤ a4.toInt → a4.toInt ≤ 1200 → a2 = 0 ∨ a2 = 1 → 1200 - a4.toInt < (n : Int) → kJ (RP G h (fun r : Int32 => r = 0 ∨ r = 1)) (fX2_shows_7 n a0 (some a1) a2 a3 a4 h) := by
  have L0 : (0 : Int32).toInt = 0 := rfl
  have L1 : (1 : Int32).toInt = 1 := rfl
  intro n
  induction n with
  | zero => intro a0 a1 a2 a3 a4 h Wh t_a0 t_a1 p0_ p1_ p2_ m_; exfalso; omega
  | succ n ih =>
    intro a0 a1 a2 a3 a4 h Wh t_a0 t_a1 p0_ p1_ p2_ m_
    unfold fX2_shows_7
    refine k_gI Wh t_a0 (by decide) rfl (fun x11_ e2_ x11_l x11_u => ?_)
    refine k_le (fun c3_ => ?_) (fun c3_ => ?_)
    · skip
      rw [if_pos (by first | assumption | decide)]
      exact k_rP (by first | assumption | decide)
    · skip
      refine k_gR (r' := 0) Wh t_a0 (by decide) rfl rfl (fun x24_ e5_ tx24_ => ?_)
      refine k_len (B := 1200) Wh tx24_ rfl (fun x36_ x36_l x36_u => ?_)
      refine k_le (fun c7_ => ?_) (fun c7_ => ?_)
      · skip
        rw [if_pos (by first | assumption | decide)]
        exact k_rP (by first | assumption | decide)
      · skip
        refine k_gR (r' := 0) Wh t_a0 (by decide) rfl rfl (fun x48_ e9_ tx48_ => ?_)
        refine k_len (B := 1200) Wh tx48_ rfl (fun x510_ x510_l x510_u => ?_)
        refine k_le (fun c11_ => ?_) (fun c11_ => ?_)
        · skip
          rw [if_pos (by first | assumption | decide)]
          exact k_rP (by first | assumption | decide)
        · skip
          refine k_kR e5_ ?_
          refine k_aR (c' := 1) Wh tx24_ (by decide) rfl (by first | omega | decide) (by first | omega | decide) (fun x712_ tx712_ => ?_)
          rcases x712_ with _ | x712_s
          · rw [if_pos rfl]
            first | refine k_add (by omega) (by omega) (fun x813_ x813_q => ?_) | refine k_let (fun x813_ => ?_)
            exact ih _ _ _ _ _ _ Wh t_a0 t_a1 (by first | omega | assumption | decide) (by first | omega | assumption | decide) (by first | omega | assumption | decide) (by omega)
          · rw [if_neg (by simp)]
            have tx712_s := tx712_ x712_s rfl
            refine k_obj Wh tx712_s (by decide) ?_
            refine k_cP (kX0_size Wh tx712_s) (fun x914_ qx914_ => ?_)
            have x914_l := qx914_.1
            have x914_u := qx914_.2
            refine k_lt (fun c15_ => ?_) (fun c15_ => ?_)
            · skip
              first | refine k_add (by omega) (by omega) (fun x1116_ x1116_q => ?_) | refine k_let (fun x1116_ => ?_)
              exact ih _ _ _ _ _ _ Wh t_a0 t_a1 (by first | omega | assumption | decide) (by first | omega | assumption | decide) (by first | omega | assumption | decide) (by omega)
            · skip
              refine k_obj Wh t_a1 (by decide) ?_
              refine k_cP (kX0_beginsWith Wh t_a1 tx712_s) (fun x1217_ qx1217_ => ?_)
              refine k_if (fun c18_ => ?_) (fun c18_ => ?_)
              · skip
                first | refine k_add (by omega) (by omega) (fun x1419_ x1419_q => ?_) | refine k_let (fun x1419_ => ?_)
                exact ih _ _ _ _ _ _ Wh t_a0 t_a1 (by first | omega | assumption | decide) (by first | omega | assumption | decide) (by first | omega | assumption | decide) (by omega)
              · skip
                refine k_obj Wh tx712_s (by decide) ?_
                refine k_cP (kX0_size Wh tx712_s) (fun x1520_ qx1520_ => ?_)
                have x1520_l := qx1520_.1
                have x1520_u := qx1520_.2
                refine k_kR e9_ ?_
                refine k_aZ Wh tx48_ (by first | omega | decide) (by first | omega | decide) (fun x1821_ x1821_z => ?_)
                first | refine k_add (by omega) (by omega) (fun x1922_ x1922_q => ?_) | refine k_let (fun x1922_ => ?_)
                exact ih _ _ _ _ _ _ Wh t_a0 t_a1 (by first | omega | assumption | decide) (by first | omega | assumption | decide) (by first | omega | assumption | decide) (by omega)

-- fX2_shows
set_option maxHeartbeats 4000000 in
theorem kX2_shows {G : GT} {r_a1 : Nat} {a0 : Nat} {a1 : Nat} {h : sm_H} (Wh : Wf G h) (t_a0 : tG G a0 3 0) (t_a1 : tG G a1 1 r_a1) : kJ (RP G h (fun r : Int32 => r = 0 ∨ r = 1)) (fX2_shows a0 (some a1) h) := by
  have L0 : (0 : Int32).toInt = 0 := rfl
  have L1 : (1 : Int32).toInt = 1 := rfl
  unfold fX2_shows
  exact k_PP (kX2_shows_7 _ _ _ _ _ _ _ Wh t_a0 t_a1 (by first | omega | assumption | decide) (by first | omega | assumption | decide) (by first | omega | assumption | decide) (by simp only [sm_fuel_eq]; omega)) (fun _ q => q)

-- fX9_thingAt
set_option maxHeartbeats 4000000 in
theorem kX9_thingAt {G : GT} {a0 : Nat} {a1 : Int32} {h : sm_H} (Wh : Wf G h) (t_a0 : tG G a0 10 0) : kJ (RP G h (fun r : Option Nat => tN G r 9 0)) (fX9_thingAt a0 a1 h) := by
  have L0 : (0 : Int32).toInt = 0 := rfl
  have L1 : (1 : Int32).toInt = 1 := rfl
  unfold fX9_thingAt
  refine k_lt (fun c1_ => ?_) (fun c1_ => ?_)
  · skip
    exact k_rP tN_n
  · skip
    refine k_gR (r' := 0) Wh t_a0 (by decide) rfl rfl (fun x12_ e3_ tx12_ => ?_)
    refine k_len (B := 40) Wh tx12_ rfl (fun x24_ x24_l x24_u => ?_)
    refine k_le (fun c5_ => ?_) (fun c5_ => ?_)
    · skip
      exact k_rP tN_n
    · skip
      refine k_kR e3_ ?_
      refine k_aR (c' := 9) Wh tx12_ (by decide) rfl (by first | omega | decide) (by first | omega | decide) (fun x46_ tx46_ => ?_)
      exact k_rP tx46_

-- fX9_thingFor_2
set_option maxHeartbeats 4000000 in
theorem kX9_thingFor_2 {G : GT} {r_a1 : Nat} : ∀ (n : Nat) (a0 : Nat) (a1 : Nat) (a2 : Int32) (h : sm_H), Wf G h → tG G a0 10 0 → tG G a1 1 r_a1 → 0 ≤ a2.toInt → a2.toInt ≤ 1200 → 1200 - a2.toInt < (n : Int) → kJ (RP G h (fun r : Option Nat => tN G r 9 0)) (fX9_thingFor_2 n a0 (some a1) a2 h) := by
  have L0 : (0 : Int32).toInt = 0 := rfl
  have L1 : (1 : Int32).toInt = 1 := rfl
  intro n
  induction n with
  | zero => intro a0 a1 a2 h Wh t_a0 t_a1 p0_ p1_ m_; exfalso; omega
  | succ n ih =>
    intro a0 a1 a2 h Wh t_a0 t_a1 p0_ p1_ m_
    unfold fX9_thingFor_2
    refine k_gI Wh t_a0 (by decide) rfl (fun x11_ e2_ x11_l x11_u => ?_)
    refine k_le (fun c3_ => ?_) (fun c3_ => ?_)
    · skip
      exact k_rP tN_n
    · skip
      refine k_obj Wh t_a0 (by decide) ?_
      refine k_cP (kX9_thingAt Wh t_a0) (fun x24_ qx24_ => ?_)
      rcases x24_ with _ | x24_s
      · rw [if_pos rfl]
        first | refine k_add (by omega) (by omega) (fun x45_ x45_q => ?_) | refine k_let (fun x45_ => ?_)
        exact ih _ _ _ _ Wh t_a0 t_a1 (by first | omega | assumption | decide) (by first | omega | assumption | decide) (by omega)
      · rw [if_neg (by simp)]
        have tx24_s := qx24_ x24_s rfl
        refine k_gR (r' := 0) Wh tx24_s (by decide) rfl rfl (fun x56_ e7_ tx56_ => ?_)
        refine k_obj Wh t_a1 (by decide) ?_
        refine k_cP (kX0_beginsWith Wh t_a1 tx56_) (fun x68_ qx68_ => ?_)
        refine k_if (fun c9_ => ?_) (fun c9_ => ?_)
        · skip
          first | refine k_add (by omega) (by omega) (fun x810_ x810_q => ?_) | refine k_let (fun x810_ => ?_)
          exact ih _ _ _ _ Wh t_a0 t_a1 (by first | omega | assumption | decide) (by first | omega | assumption | decide) (by omega)
        · skip
          exact k_rP (tN_s tx24_s)

-- fX9_thingFor
set_option maxHeartbeats 4000000 in
theorem kX9_thingFor {G : GT} {r_a1 : Nat} {a0 : Nat} {a1 : Nat} {h : sm_H} (Wh : Wf G h) (t_a0 : tG G a0 10 0) (t_a1 : tG G a1 1 r_a1) : kJ (RP G h (fun r : Option Nat => tN G r 9 0)) (fX9_thingFor a0 (some a1) h) := by
  have L0 : (0 : Int32).toInt = 0 := rfl
  have L1 : (1 : Int32).toInt = 1 := rfl
  unfold fX9_thingFor
  exact k_PP (kX9_thingFor_2 _ _ _ _ _ Wh t_a0 t_a1 (by first | omega | assumption | decide) (by first | omega | assumption | decide) (by simp only [sm_fuel_eq]; omega)) (fun _ q => q)

-- fX8_takesLength
set_option maxHeartbeats 4000000 in
theorem kX8_takesLength {G : GT} {a0 : Nat} {a1 : Nat} {h : sm_H} (Wh : Wf G h) (t_a0 : tG G a0 9 0) (t_a1 : tG G a1 11 0) : kJ (RP G h (fun r : Int32 => r = 0 ∨ r = 1)) (fX8_takesLength a0 (some a1) h) := by
  have L0 : (0 : Int32).toInt = 0 := rfl
  have L1 : (1 : Int32).toInt = 1 := rfl
  have L4 : (4 : Int32).toInt = 4 := rfl
  unfold fX8_takesLength
  refine k_gI Wh t_a0 (by decide) rfl (fun x11_ e2_ x11_l x11_u => ?_)
  refine k_if (fun c3_ => ?_) (fun c3_ => ?_)
  · skip
    refine k_gR (r' := 0) Wh t_a1 (by decide) rfl rfl (fun x24_ e5_ tx24_ => ?_)
    refine k_obj Wh tx24_ (by decide) ?_
    refine k_cP (kX0_size Wh tx24_) (fun x36_ qx36_ => ?_)
    have x36_l := qx36_.1
    have x36_u := qx36_.2
    refine k_gJ Wh t_a0 (by decide) rfl (fun x57_ e8_ => ?_)
    refine k_l1 (fun c9_ => ?_) (fun c9_ => ?_)
    · skip
      exact k_rP (by first | assumption | decide)
    · skip
      refine k_kR e5_ ?_
      refine k_obj Wh tx24_ (by decide) ?_
      refine k_cP (kX0_size Wh tx24_) (fun x710_ qx710_ => ?_)
      have x710_l := qx710_.1
      have x710_u := qx710_.2
      refine k_gJ Wh t_a0 (by decide) rfl (fun x911_ e12_ => ?_)
      refine k_l3 (fun c13_ => ?_) (fun c13_ => ?_)
      · skip
        exact k_rP (by first | assumption | decide)
      · skip
        exact k_rP (by first | assumption | decide)
  · skip
    exact k_rP (by first | assumption | decide)

-- fX8_isStatus
set_option maxHeartbeats 4000000 in
theorem kX8_isStatus {G : GT} {a0 : Nat} {h : sm_H} (Wh : Wf G h) (t_a0 : tG G a0 9 0) : kJ (RP G h (fun r : Int32 => (r = 0 ∨ r = 1) ∧ (r ≠ 0 → ∃ b, sm_get h (some a0) 8 5 = some (va_rf (some b))))) (fX8_isStatus a0 h) := by
  have L0 : (0 : Int32).toInt = 0 := rfl
  have L1 : (1 : Int32).toInt = 1 := rfl
  unfold fX8_isStatus
  refine k_gN (r' := 0) Wh t_a0 (by decide) rfl rfl (fun x11_ e2_ tx11_ => ?_)
  rcases x11_ with _ | x11_s
  · rw [if_pos rfl]
    exact k_rP ⟨Or.inl rfl, fun q => absurd rfl q⟩
  · rw [if_neg (by simp)]
    have tx11_s := tx11_ x11_s rfl
    refine k_kR e2_ ?_
    refine k_gN (r' := 0) Wh tx11_s (by decide) rfl rfl (fun x33_ e4_ tx33_ => ?_)
    refine k_if (fun c5_ => ?_) (fun c5_ => ?_)
    · skip
      exact k_rP ⟨Or.inr rfl, fun _ => ⟨_, e2_⟩⟩
    · skip
      exact k_rP ⟨Or.inl rfl, fun q => absurd rfl q⟩
