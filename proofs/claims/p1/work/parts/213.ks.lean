-- fX5_readLength
theorem j_sub {x y : Int64} (h1 : -9223372036854775808 ≤ x.toInt - y.toInt) (h2 : x.toInt - y.toInt ≤ 9223372036854775807) : (x - y).toInt = x.toInt - y.toInt := by
  rw [Int64.toInt_sub, Int.bmod_eq_of_le (by omega) (by omega)]
theorem j_n32 {x : Int64} (h1 : -2147483648 ≤ x.toInt) (h2 : x.toInt ≤ 2147483647) : x.toInt32.toInt = x.toInt := by
  rw [Int64.toInt_toInt32, Int.bmod_eq_of_le (by omega) (by omega)]
set_option maxHeartbeats 4000000 in
theorem kX5_readLength {G : GT} {a0 : Nat} {a1 : Int32} {h : sm_H} (Wh : Wf G h) (t : tG G a0 6 0) (p0 : a1.toInt ≤ 1200) : kJ (RW [(6, 0)] G h (fun (_ : Int64) (_ : sm_H) => True)) (fX5_readLength a0 a1 h) := by
  have L0 : (0 : Int32).toInt = 0 := rfl
  have L1 : (1 : Int32).toInt = 1 := rfl
  have L128 : (128 : Int32).toInt = 128 := rfl
  have J128 : (128 : Int64).toInt = 128 := rfl
  have J129 : (129 : Int64).toInt = 129 := rfl
  have J132 : (132 : Int64).toInt = 132 := rfl
  unfold fX5_readLength
  refine k_gI Wh t (by decide) rfl (fun x1 e1 l1 u1 => ?_)
  refine k_lt (fun c1 => ?_) (fun c1 => ?_)
  · refine k_gR Wh t (by decide) rfl rfl (fun x2 e2 t2 => ?_)
    refine k_kI e1 ?_
    refine k_obj Wh t2 (by decide) ?_
    refine k_cP (kX0_at Wh t2) (fun x4 _ => ?_)
    refine k_kI e1 ?_
    refine k_W t (by decide) (w_putI Wh t (by decide) rfl (by rw [i_add1 (by omega)]; omega) (by rw [i_add1 (by omega)]; omega)) (fun h7 o7 x7 => ?_)
    have W7 := o7.1
    have e7 : sm_get h7 (some a0) 5 2 = some (.int (x1 + 1)) := by rw [x7 2, if_pos rfl]
    have i1 : (x1 + 1).toInt = x1.toInt + 1 := i_add1 (by omega)
    refine k_l4 (fun c2 => ?_) (fun c2 => ?_)
    · refine k_l1 (fun c3 => ?_) (fun c3 => ?_)
      · exact k_rW W7 trivial
      · refine k_l3 (fun c4 => ?_) (fun c4 => ?_)
        · exact k_rW W7 trivial
        · refine k_kI e7 ?_
          refine k_l2 (fun c5 => ?_) (fun c5 => ?_)
          · rw [j_sub (by omega) (by omega), Int32.toInt_toInt64, i_sub (by omega) (by omega)] at c5
            refine k_sub (by rw [j_n32 (by omega) (by omega)]; omega) (by rw [j_n32 (by omega) (by omega)]; omega) (fun x9 q9 => ?_)
            rw [j_n32 (by omega) (by omega)] at q9
            exact kX5_readLength_91 _ _ _ _ _ W7 t (by omega) ⟨_, e7, by omega⟩ (by simp only [sm_fuel_eq]; omega)
          · exact k_rW W7 trivial
    · exact k_rW W7 trivial
  · exact k_rW Wh trivial

-- fX5_enter
set_option maxHeartbeats 4000000 in
theorem kX5_enter {G : GT} {a0 : Nat} {a1 a2 : Int32} {h : sm_H} (Wh : Wf G h) (t : tG G a0 6 0) (p0 : a2.toInt ≤ 1200) : kJ (RW [(6, 0)] G h (fun (r : Int32) (_ : sm_H) => -1 ≤ r.toInt ∧ r.toInt ≤ 1200)) (fX5_enter a0 a1 a2 h) := by
  have L0 : (0 : Int32).toInt = 0 := rfl
  have L1 : (1 : Int32).toInt = 1 := rfl
  have J0 : (0 : Int64).toInt = 0 := rfl
  unfold fX5_enter
  refine k_gI Wh t (by decide) rfl (fun x1 e1 l1 u1 => ?_)
  refine k_le (fun c1 => ?_) (fun c1 => ?_)
  · exact k_rW Wh ⟨by decide, by decide⟩
  · refine k_gR Wh t (by decide) rfl rfl (fun x2 e2 t2 => ?_)
    refine k_kI e1 ?_
    refine k_obj Wh t2 (by decide) ?_
    refine k_cP (kX0_at Wh t2) (fun x4 _ => ?_)
    refine k_if (fun c2 => ?_) (fun c2 => ?_)
    · refine k_kI e1 ?_
      refine k_W t (by decide) (w_putI Wh t (by decide) rfl (by rw [i_add1 (by omega)]; omega) (by rw [i_add1 (by omega)]; omega)) (fun h7 o7 x7 => ?_)
      have W7 := o7.1
      refine k_obj W7 t (by decide) ?_
      refine k_cWW (kX5_readLength W7 t p0) (by decide) (fun x8 h9 f9 _ => ?_)
      have W9 := f9.1
      refine k_l1 (fun c3 => ?_) (fun c3 => ?_)
      · exact k_rW W9 ⟨by decide, by decide⟩
      · refine k_gI W9 t (by decide) rfl (fun x10 e10 l10 u10 => ?_)
        refine k_l2 (fun c4 => ?_) (fun c4 => ?_)
        · refine k_kI e10 ?_
          rw [Int32.toInt_toInt64, i_sub (by omega) (by omega)] at c4
          have i8 : x8.toInt32.toInt = x8.toInt := j_n32 (by omega) (by omega)
          have i9 : (x10 + x8.toInt32).toInt = x10.toInt + x8.toInt := by rw [i_add (by omega) (by omega), i8]
          exact k_rW W9 ⟨by omega, by omega⟩
        · exact k_rW W9 ⟨by decide, by decide⟩
    · exact k_rW Wh ⟨by decide, by decide⟩

-- fX5_enterLast
set_option maxHeartbeats 4000000 in
theorem kX5_enterLast {G : GT} {a0 : Nat} {a1 : Int32} {h : sm_H} (Wh : Wf G h) (t_a0 : tG G a0 6 0) : kJ (RW [(6, 0)] G h (fun (r : Int32) (_ : sm_H) => r = 0 ∨ r = 1)) (fX5_enterLast a0 a1 h) := by
  have L0 : (0 : Int32).toInt = 0 := rfl
  have L1 : (1 : Int32).toInt = 1 := rfl
  unfold fX5_enterLast
  refine k_gR (r' := 1) Wh t_a0 (by decide) rfl rfl (fun x11_ e2_ tx11_ => ?_)
  refine k_obj Wh tx11_ (by decide) ?_
  refine k_cP (kX0_size Wh tx11_) (fun x23_ qx23_ => ?_)
  have x23_l := qx23_.1
  have x23_u := qx23_.2
  refine k_obj Wh t_a0 (by decide) ?_
  refine k_cWW (kX5_enter Wh t_a0 (by first | omega | assumption | decide)) (by first | decide | exact fun _ q => q) (fun x44_ h5_ fh5_ qx44_ => ?_)
  have Wh5_ := fh5_.1
  have x44_l := qx44_.1
  have x44_u := qx44_.2
  refine k_gR (r' := 1) Wh5_ t_a0 (by decide) rfl rfl (fun x66_ e7_ tx66_ => ?_)
  refine k_obj Wh5_ tx66_ (by decide) ?_
  refine k_cP (kX0_size Wh5_ tx66_) (fun x78_ qx78_ => ?_)
  have x78_l := qx78_.1
  have x78_u := qx78_.2
  refine k_if (fun c9_ => ?_) (fun c9_ => ?_)
  · skip
    exact k_rW Wh5_ (by first | assumption | decide)
  · skip
    exact k_rW Wh5_ (by first | assumption | decide)

-- fX11_isNumberOf
set_option maxHeartbeats 4000000 in
theorem kX11_isNumberOf {G : GT} {a0 : Int32} {a1 : Int64} {h : sm_H} (Wh : Wf G h) : kJ (RP G h (fun r : Int32 => r = 0 ∨ r = 1)) (fX11_isNumberOf a0 a1 h) := by
  have L0 : (0 : Int32).toInt = 0 := rfl
  have L1 : (1 : Int32).toInt = 1 := rfl
  have L2 : (2 : Int32).toInt = 2 := rfl
  have L65 : (65 : Int32).toInt = 65 := rfl
  have L66 : (66 : Int32).toInt = 66 := rfl
  have L67 : (67 : Int32).toInt = 67 := rfl
  unfold fX11_isNumberOf
  refine k_if (fun c1_ => ?_) (fun c1_ => ?_)
  · skip
    refine k_l1 (fun c2_ => ?_) (fun c2_ => ?_)
    · skip
      exact k_rP (by first | assumption | decide)
    · skip
      refine k_l3 (fun c3_ => ?_) (fun c3_ => ?_)
      · skip
        exact k_rP (by first | assumption | decide)
      · skip
        exact k_rP (by first | assumption | decide)
  · skip
    refine k_if (fun c4_ => ?_) (fun c4_ => ?_)
    · skip
      refine k_l1 (fun c5_ => ?_) (fun c5_ => ?_)
      · skip
        exact k_rP (by first | assumption | decide)
      · skip
        refine k_l3 (fun c6_ => ?_) (fun c6_ => ?_)
        · skip
          exact k_rP (by first | assumption | decide)
        · skip
          exact k_rP (by first | assumption | decide)
    · skip
      refine k_if (fun c7_ => ?_) (fun c7_ => ?_)
      · skip
        refine k_l1 (fun c8_ => ?_) (fun c8_ => ?_)
        · skip
          exact k_rP (by first | assumption | decide)
        · skip
          refine k_l3 (fun c9_ => ?_) (fun c9_ => ?_)
          · skip
            exact k_rP (by first | assumption | decide)
          · skip
            exact k_rP (by first | assumption | decide)
      · skip
        refine k_if (fun c10_ => ?_) (fun c10_ => ?_)
        · skip
          refine k_l1 (fun c11_ => ?_) (fun c11_ => ?_)
          · skip
            exact k_rP (by first | assumption | decide)
          · skip
            refine k_l3 (fun c12_ => ?_) (fun c12_ => ?_)
            · skip
              exact k_rP (by first | assumption | decide)
            · skip
              exact k_rP (by first | assumption | decide)
        · skip
          exact k_rP (by first | assumption | decide)

-- fX5_takeNumber_58
set_option maxHeartbeats 4000000 in
theorem kX5_takeNumber_58 {G : GT} : ∀ (n : Nat) (a0 : Nat) (a1 : Int32) (a2 : Int32) (a3 : Nat) (a4 : Int32) (a5 : Int64) (a7 : Int64) (a9 : Int64) (h : sm_H), Wf G h → tG G a0 6 0 → tG G a3 11 0 → a2.toInt ≤ 1200 → (∃ x : Int32, sm_get h (some a0) 5 2 = some (.int x) ∧ 1200 - x.toInt < (n : Int)) → kJ (RW [(6, 0), (11, 0)] G h (fun (r : Int32) (_ : sm_H) => r = 0 ∨ r = 1)) (fX5_takeNumber_58 n a0 a1 a2 (some a3) a4 a5 a7 a9 h) := by
  have L0 : (0 : Int32).toInt = 0 := rfl
  have L1 : (1 : Int32).toInt = 1 := rfl
  have L8 : (8 : Int32).toInt = 8 := rfl
  have L9 : (9 : Int32).toInt = 9 := rfl
  have L70 : (70 : Int32).toInt = 70 := rfl
  intro n
  induction n with
  | zero => intro a0 a1 a2 a3 a4 a5 a7 a9 h Wh t_a0 t_a3 p0_ m_; exact at_no Wh t_a0 m_
  | succ n ih =>
    intro a0 a1 a2 a3 a4 a5 a7 a9 h Wh t_a0 t_a3 p0_ m_
    obtain ⟨xa, ea, ma⟩ := m_
    have ra := kw_at Wh t_a0 ea
    have ral := ra.1
    have rau := ra.2
    unfold fX5_takeNumber_58
    refine k_kI ea ?_
    refine k_le (fun c1_ => ?_) (fun c1_ => ?_)
    · skip
      refine k_W t_a3 (by first | decide | simp) (w_putJ Wh t_a3 (by decide) rfl) (fun h2_ oh2_ xh2_ => ?_)
      have Wh2_ := oh2_.1
      have e3_ := kg_fr (oh2_.2.2.2 _ (tg_ne t_a0 t_a3 (by simp))) ea
      refine k_if (fun c4_ => ?_) (fun c4_ => ?_)
      · skip
        refine k_if (fun c5_ => ?_) (fun c5_ => ?_)
        · skip
          unfold fX5_takeNumber_125
          refine k_if (fun c6_ => ?_) (fun c6_ => ?_)
          · skip
            refine k_if (fun c7_ => ?_) (fun c7_ => ?_)
            · skip
              exact k_rW Wh2_ (by first | assumption | decide)
            · skip
              exact k_rW Wh2_ (by first | assumption | decide)
          · skip
            refine k_l4 (fun c8_ => ?_) (fun c8_ => ?_)
            · skip
              unfold fX5_takeNumber_156
              refine k_l4 (fun c9_ => ?_) (fun c9_ => ?_)
              · skip
                unfold fX5_takeNumber_168
                rw [if_pos (by decide)]
                refine k_cP (kX11_isNumberOf Wh2_ ) (fun x110_ qx110_ => ?_)
                refine k_if (fun c11_ => ?_) (fun c11_ => ?_)
                · skip
                  exact k_rW Wh2_ (by first | assumption | decide)
                · skip
                  exact k_rW Wh2_ (by first | assumption | decide)
              · skip
                unfold fX5_takeNumber_168
                rw [if_neg (by decide)]
                exact k_rW Wh2_ (by first | assumption | decide)
            · skip
              unfold fX5_takeNumber_156
              refine k_l4 (fun c12_ => ?_) (fun c12_ => ?_)
              · skip
                unfold fX5_takeNumber_168
                rw [if_neg (by decide)]
                exact k_rW Wh2_ (by first | assumption | decide)
              · skip
                unfold fX5_takeNumber_168
                rw [if_pos (by decide)]
                refine k_cP (kX11_isNumberOf Wh2_ ) (fun x113_ qx113_ => ?_)
                refine k_if (fun c14_ => ?_) (fun c14_ => ?_)
                · skip
                  exact k_rW Wh2_ (by first | assumption | decide)
                · skip
                  exact k_rW Wh2_ (by first | assumption | decide)
        · skip
          exact k_rW Wh2_ (by first | assumption | decide)
      · skip
        unfold fX5_takeNumber_125
        refine k_if (fun c15_ => ?_) (fun c15_ => ?_)
        · skip
          refine k_if (fun c16_ => ?_) (fun c16_ => ?_)
          · skip
            exact k_rW Wh2_ (by first | assumption | decide)
          · skip
            exact k_rW Wh2_ (by first | assumption | decide)
        · skip
          refine k_l4 (fun c17_ => ?_) (fun c17_ => ?_)
          · skip
            unfold fX5_takeNumber_156
            refine k_l4 (fun c18_ => ?_) (fun c18_ => ?_)
            · skip
              unfold fX5_takeNumber_168
              rw [if_pos (by decide)]
              refine k_cP (kX11_isNumberOf Wh2_ ) (fun x119_ qx119_ => ?_)
              refine k_if (fun c20_ => ?_) (fun c20_ => ?_)
              · skip
                exact k_rW Wh2_ (by first | assumption | decide)
              · skip
                exact k_rW Wh2_ (by first | assumption | decide)
            · skip
              unfold fX5_takeNumber_168
              rw [if_neg (by decide)]
              exact k_rW Wh2_ (by first | assumption | decide)
          · skip
            unfold fX5_takeNumber_156
            refine k_l4 (fun c21_ => ?_) (fun c21_ => ?_)
            · skip
              unfold fX5_takeNumber_168
              rw [if_neg (by decide)]
              exact k_rW Wh2_ (by first | assumption | decide)
            · skip
              unfold fX5_takeNumber_168
              rw [if_pos (by decide)]
              refine k_cP (kX11_isNumberOf Wh2_ ) (fun x122_ qx122_ => ?_)
              refine k_if (fun c23_ => ?_) (fun c23_ => ?_)
              · skip
                exact k_rW Wh2_ (by first | assumption | decide)
              · skip
                exact k_rW Wh2_ (by first | assumption | decide)
    · skip
      refine k_gR (r' := 1) Wh t_a0 (by decide) rfl rfl (fun x324_ e25_ tx324_ => ?_)
      refine k_kI ea ?_
      refine k_obj Wh tx324_ (by decide) ?_
      refine k_cP (kX0_at Wh tx324_) (fun x526_ qx526_ => ?_)
      refine k_let (fun x727_ => ?_)
      refine k_kI ea ?_
      refine k_W t_a0 (by first | decide | simp) (w_putI Wh t_a0 (by decide) rfl (by first | omega | (rw [i_add1 (by omega)]; omega) | decide) (by first | omega | (rw [i_add1 (by omega)]; omega) | decide)) (fun h28_ oh28_ xh28_ => ?_)
      have Wh28_ := oh28_.1
      have e29_ := (xh28_ 2).trans (if_pos rfl)
      exact ih _ _ _ _ _ _ _ _ _ Wh28_ t_a0 t_a3 (by first | omega | assumption | decide) ⟨_, e29_, by first | (simp only [sm_fuel_eq]; omega) | omega | (rw [i_add1 (by omega)]; omega)⟩

-- fX5_takeNumber
set_option maxHeartbeats 4000000 in
theorem kX5_takeNumber {G : GT} {a0 : Nat} {a1 : Int32} {a2 : Int32} {a3 : Nat} {h : sm_H} (Wh : Wf G h) (t_a0 : tG G a0 6 0) (t_a3 : tG G a3 11 0) (p0_ : a2.toInt ≤ 1200) : kJ (RW [(6, 0), (11, 0)] G h (fun (r : Int32) (_ : sm_H) => r = 0 ∨ r = 1)) (fX5_takeNumber a0 a1 a2 (some a3) h) := by
  have L0 : (0 : Int32).toInt = 0 := rfl
  have L1 : (1 : Int32).toInt = 1 := rfl
  have L9 : (9 : Int32).toInt = 9 := rfl
  unfold fX5_takeNumber
  refine k_gI Wh t_a0 (by decide) rfl (fun x11_ e2_ x11_l x11_u => ?_)
  first | refine k_sub (by omega) (by omega) (fun x23_ x23_q => ?_) | refine k_let (fun x23_ => ?_)
  refine k_lt (fun c4_ => ?_) (fun c4_ => ?_)
  · skip
    exact k_rW Wh (by first | assumption | decide)
  · skip
    refine k_le (fun c5_ => ?_) (fun c5_ => ?_)
    · skip
      refine k_gR (r' := 1) Wh t_a0 (by decide) rfl rfl (fun x36_ e7_ tx36_ => ?_)
      refine k_kI e2_ ?_
      refine k_obj Wh tx36_ (by decide) ?_
      refine k_cP (kX0_at Wh tx36_) (fun x58_ qx58_ => ?_)
      refine k_l1 (fun c9_ => ?_) (fun c9_ => ?_)
      · skip
        exact k_WW (kX5_takeNumber_58 _ _ _ _ _ _ _ _ _ _ Wh t_a0 t_a3 (by first | omega | assumption | decide) ⟨_, e2_, by first | (simp only [sm_fuel_eq]; omega) | omega | (rw [i_add1 (by omega)]; omega)⟩) (by first | decide | exact fun _ q => q) (fun _ _ _ q => q)
      · skip
        exact k_WW (kX5_takeNumber_58 _ _ _ _ _ _ _ _ _ _ Wh t_a0 t_a3 (by first | omega | assumption | decide) ⟨_, e2_, by first | (simp only [sm_fuel_eq]; omega) | omega | (rw [i_add1 (by omega)]; omega)⟩) (by first | decide | exact fun _ q => q) (fun _ _ _ q => q)
    · skip
      exact k_rW Wh (by first | assumption | decide)

-- fX5_readInteger
set_option maxHeartbeats 4000000 in
theorem kX5_readInteger {G : GT} {a0 : Nat} {h : sm_H} (Wh : Wf G h) (t_a0 : tG G a0 6 0) : kJ (RW [(6, 0), (11, 0)] G h (fun (r : Int32) (_ : sm_H) => r = 0 ∨ r = 1)) (fX5_readInteger a0 h) := by
  have L0 : (0 : Int32).toInt = 0 := rfl
  have L1 : (1 : Int32).toInt = 1 := rfl
  have L2 : (2 : Int32).toInt = 2 := rfl
  unfold fX5_readInteger
  refine k_gR (r' := 1) Wh t_a0 (by decide) rfl rfl (fun x11_ e2_ tx11_ => ?_)
  refine k_obj Wh tx11_ (by decide) ?_
  refine k_cP (kX0_size Wh tx11_) (fun x23_ qx23_ => ?_)
  have x23_l := qx23_.1
  have x23_u := qx23_.2
  refine k_obj Wh t_a0 (by decide) ?_
  refine k_cWW (kX5_enter Wh t_a0 (by first | omega | assumption | decide)) (by first | decide | exact fun _ q => q) (fun x44_ h5_ fh5_ qx44_ => ?_)
  have Wh5_ := fh5_.1
  have x44_l := qx44_.1
  have x44_u := qx44_.2
  refine k_lt (fun c6_ => ?_) (fun c6_ => ?_)
  · skip
    exact k_rW Wh5_ (by first | assumption | decide)
  · skip
    refine k_gR (r' := 0) Wh5_ t_a0 (by decide) rfl rfl (fun x67_ e8_ tx67_ => ?_)
    refine k_obj Wh5_ t_a0 (by decide) ?_
    refine k_cWW (kX5_takeNumber Wh5_ t_a0 tx67_ (by first | omega | assumption | decide)) (by first | decide | exact fun _ q => q) (fun x79_ h10_ fh10_ qx79_ => ?_)
    have Wh10_ := fh10_.1
    refine k_if (fun c11_ => ?_) (fun c11_ => ?_)
    · skip
      exact k_rW Wh10_ (by first | assumption | decide)
    · skip
      exact k_rW Wh10_ (by first | assumption | decide)

-- fX5_takeText_17
set_option maxHeartbeats 4000000 in
theorem kX5_takeText_17 {G : GT} : ∀ (n : Nat) (a0 : Nat) (a1 : Nat) (a2 : Int32) (h : sm_H), Wf G h → tG G a0 6 0 → tG G a1 1 0 → a2.toInt ≤ 1200 → (∃ x : Int32, sm_get h (some a0) 5 2 = some (.int x) ∧ 1200 - x.toInt < (n : Int)) → kJ (RW [(1, 0), (6, 0), (21, 0)] G h (fun (r : Int32) (_ : sm_H) => r = 0 ∨ r = 1)) (fX5_takeText_17 n a0 (some a1) a2 h) := by
  have L0 : (0 : Int32).toInt = 0 := rfl
  have L1 : (1 : Int32).toInt = 1 := rfl
  intro n
  induction n with
  | zero => intro a0 a1 a2 h Wh t_a0 t_a1 p0_ m_; exact at_no Wh t_a0 m_
  | succ n ih =>
    intro a0 a1 a2 h Wh t_a0 t_a1 p0_ m_
    obtain ⟨xa, ea, ma⟩ := m_
    have ra := kw_at Wh t_a0 ea
    have ral := ra.1
    have rau := ra.2
    unfold fX5_takeText_17
    refine k_kI ea ?_
    refine k_le (fun c1_ => ?_) (fun c1_ => ?_)
    · skip
      exact k_rW Wh (by first | assumption | decide)
    · skip
      refine k_gR (r' := 1) Wh t_a0 (by decide) rfl rfl (fun x22_ e3_ tx22_ => ?_)
      refine k_kI ea ?_
      refine k_obj Wh tx22_ (by decide) ?_
      refine k_cP (kX0_at Wh tx22_) (fun x44_ qx44_ => ?_)
      refine k_obj Wh t_a1 (by decide) ?_
      refine k_cWW (kX0_add Wh t_a1) (by first | decide | exact fun _ q => q) (fun x65_ h6_ fh6_ qx65_ => ?_)
      have Wh6_ := fh6_.1
      have e7_ := kg_fr (fh6_.2.2.2 _ (by rw [t_a0.1, t_a0.2]; first | decide | simp)) ea
      refine k_kI e7_ ?_
      refine k_W t_a0 (by first | decide | simp) (w_putI Wh6_ t_a0 (by decide) rfl (by first | omega | (rw [i_add1 (by omega)]; omega) | decide) (by first | omega | (rw [i_add1 (by omega)]; omega) | decide)) (fun h8_ oh8_ xh8_ => ?_)
      have Wh8_ := oh8_.1
      have e9_ := (xh8_ 2).trans (if_pos rfl)
      exact ih _ _ _ _ Wh8_ t_a0 t_a1 (by first | omega | assumption | decide) ⟨_, e9_, by first | (simp only [sm_fuel_eq]; omega) | omega | (rw [i_add1 (by omega)]; omega)⟩

-- fX5_takeText
set_option maxHeartbeats 4000000 in
theorem kX5_takeText {G : GT} {a0 : Nat} {a1 : Nat} {a2 : Int32} {h : sm_H} (Wh : Wf G h) (t_a0 : tG G a0 6 0) (t_a1 : tG G a1 1 0) (p0_ : a2.toInt ≤ 1200) : kJ (RW [(1, 0), (6, 0), (21, 0)] G h (fun (r : Int32) (_ : sm_H) => r = 0 ∨ r = 1)) (fX5_takeText a0 (some a1) a2 h) := by
  have L0 : (0 : Int32).toInt = 0 := rfl
  have L1 : (1 : Int32).toInt = 1 := rfl
  have L40 : (40 : Int32).toInt = 40 := rfl
  unfold fX5_takeText
  refine k_obj Wh t_a1 (by decide) ?_
  refine k_cWW (kX0_clear Wh t_a1) (by first | decide | exact fun _ q => q) (fun v1_ h2_ fh2_ qv1_ => ?_)
  have Wh2_ := fh2_.1
  refine k_gI Wh2_ t_a0 (by decide) rfl (fun x23_ e4_ x23_l x23_u => ?_)
  refine k_le (fun c5_ => ?_) (fun c5_ => ?_)
  · skip
    exact k_WW (kX5_takeText_17 _ _ _ _ _ Wh2_ t_a0 t_a1 (by first | omega | assumption | decide) ⟨_, e4_, by first | (simp only [sm_fuel_eq]; omega) | omega | (rw [i_add1 (by omega)]; omega)⟩) (by first | decide | exact fun _ q => q) (fun _ _ _ q => q)
  · skip
    exact k_rW Wh2_ (by first | assumption | decide)

-- fX5_readHead
set_option maxHeartbeats 4000000 in
theorem kX5_readHead {G : GT} {a0 : Nat} {a1 : Nat} {h : sm_H} (Wh : Wf G h) (t_a0 : tG G a0 6 0) (t_a1 : tG G a1 4 0) : kJ (RW [(1, 0), (4, 0), (6, 0), (11, 0), (21, 0)] G h (fun (r : Int32) (_ : sm_H) => True)) (fX5_readHead a0 (some a1) h) := by
  have L0 : (0 : Int32).toInt = 0 := rfl
  have L1 : (1 : Int32).toInt = 1 := rfl
  have L2 : (2 : Int32).toInt = 2 := rfl
  have L4 : (4 : Int32).toInt = 4 := rfl
  have L48 : (48 : Int32).toInt = 48 := rfl
  unfold fX5_readHead
  refine k_W t_a0 (by first | decide | simp) (w_putI Wh t_a0 (by decide) rfl (by first | omega | (rw [i_add1 (by omega)]; omega) | decide) (by first | omega | (rw [i_add1 (by omega)]; omega) | decide)) (fun h1_ oh1_ xh1_ => ?_)
  have Wh1_ := oh1_.1
  refine k_obj Wh1_ t_a0 (by decide) ?_
  refine k_cWW (kX5_enterLast Wh1_ t_a0) (by first | decide | exact fun _ q => q) (fun x22_ h3_ fh3_ qx22_ => ?_)
  have Wh3_ := fh3_.1
  refine k_if (fun c4_ => ?_) (fun c4_ => ?_)
  · skip
    exact k_rW Wh3_ trivial
  · skip
    refine k_obj Wh3_ t_a0 (by decide) ?_
    refine k_cWW (kX5_readInteger Wh3_ t_a0) (by first | decide | exact fun _ q => q) (fun x45_ h6_ fh6_ qx45_ => ?_)
    have Wh6_ := fh6_.1
    refine k_if (fun c7_ => ?_) (fun c7_ => ?_)
    · skip
      exact k_rW Wh6_ trivial
    · skip
      refine k_gR (r' := 0) Wh6_ t_a0 (by decide) rfl rfl (fun x68_ e9_ tx68_ => ?_)
      refine k_gJ Wh6_ tx68_ (by decide) rfl (fun x710_ e11_ => ?_)
      refine k_if (fun c12_ => ?_) (fun c12_ => ?_)
      · skip
        unfold fX5_readHead_49
        refine k_kR e9_ ?_
        refine k_kJ e11_ ?_
        refine k_W t_a1 (by first | decide | simp) (w_putI Wh6_ t_a1 (by decide) rfl (i_lo _) (i_hi _)) (fun h13_ oh13_ xh13_ => ?_)
        have Wh13_ := oh13_.1
        refine k_gR (r' := 1) Wh13_ t_a0 (by decide) rfl rfl (fun x414_ e15_ tx414_ => ?_)
        refine k_obj Wh13_ tx414_ (by decide) ?_
        refine k_cP (kX0_size Wh13_ tx414_) (fun x516_ qx516_ => ?_)
        have x516_l := qx516_.1
        have x516_u := qx516_.2
        refine k_obj Wh13_ t_a0 (by decide) ?_
        refine k_cWW (kX5_enter Wh13_ t_a0 (by first | omega | assumption | decide)) (by first | decide | exact fun _ q => q) (fun x717_ h18_ fh18_ qx717_ => ?_)
        have Wh18_ := fh18_.1
        have x717_l := qx717_.1
        have x717_u := qx717_.2
        refine k_lt (fun c19_ => ?_) (fun c19_ => ?_)
        · skip
          exact k_rW Wh18_ trivial
        · skip
          refine k_gR (r' := 0) Wh18_ t_a1 (by decide) rfl rfl (fun x920_ e21_ tx920_ => ?_)
          refine k_obj Wh18_ t_a0 (by decide) ?_
          refine k_cWW (kX5_takeText Wh18_ t_a0 tx920_ (by first | omega | assumption | decide)) (by first | decide | exact fun _ q => q) (fun x1022_ h23_ fh23_ qx1022_ => ?_)
          have Wh23_ := fh23_.1
          refine k_if (fun c24_ => ?_) (fun c24_ => ?_)
          · skip
            exact k_rW Wh23_ trivial
          · skip
            exact k_rW Wh23_ trivial
      · skip
        refine k_kR e9_ ?_
        refine k_kJ e11_ ?_
        refine k_if (fun c25_ => ?_) (fun c25_ => ?_)
        · skip
          unfold fX5_readHead_49
          refine k_kR e9_ ?_
          refine k_kJ e11_ ?_
          refine k_W t_a1 (by first | decide | simp) (w_putI Wh6_ t_a1 (by decide) rfl (i_lo _) (i_hi _)) (fun h26_ oh26_ xh26_ => ?_)
          have Wh26_ := oh26_.1
          refine k_gR (r' := 1) Wh26_ t_a0 (by decide) rfl rfl (fun x427_ e28_ tx427_ => ?_)
          refine k_obj Wh26_ tx427_ (by decide) ?_
          refine k_cP (kX0_size Wh26_ tx427_) (fun x529_ qx529_ => ?_)
          have x529_l := qx529_.1
          have x529_u := qx529_.2
          refine k_obj Wh26_ t_a0 (by decide) ?_
          refine k_cWW (kX5_enter Wh26_ t_a0 (by first | omega | assumption | decide)) (by first | decide | exact fun _ q => q) (fun x730_ h31_ fh31_ qx730_ => ?_)
          have Wh31_ := fh31_.1
          have x730_l := qx730_.1
          have x730_u := qx730_.2
          refine k_lt (fun c32_ => ?_) (fun c32_ => ?_)
          · skip
            exact k_rW Wh31_ trivial
          · skip
            refine k_gR (r' := 0) Wh31_ t_a1 (by decide) rfl rfl (fun x933_ e34_ tx933_ => ?_)
            refine k_obj Wh31_ t_a0 (by decide) ?_
            refine k_cWW (kX5_takeText Wh31_ t_a0 tx933_ (by first | omega | assumption | decide)) (by first | decide | exact fun _ q => q) (fun x1035_ h36_ fh36_ qx1035_ => ?_)
            have Wh36_ := fh36_.1
            refine k_if (fun c37_ => ?_) (fun c37_ => ?_)
            · skip
              exact k_rW Wh36_ trivial
            · skip
              exact k_rW Wh36_ trivial
        · skip
          exact k_rW Wh6_ trivial
