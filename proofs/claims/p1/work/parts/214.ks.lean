-- fX5_isKind
set_option maxHeartbeats 4000000 in
theorem kX5_isKind {G : GT} {a0 : Int32} {a1 : Int32} {h : sm_H} (Wh : Wf G h) : kJ (RP G h (fun r : Int32 => r = 0 ∨ r = 1)) (fX5_isKind a0 a1 h) := by
  have L0 : (0 : Int32).toInt = 0 := rfl
  have L1 : (1 : Int32).toInt = 1 := rfl
  have L160 : (160 : Int32).toInt = 160 := rfl
  have L161 : (161 : Int32).toInt = 161 := rfl
  have L163 : (163 : Int32).toInt = 163 := rfl
  have L165 : (165 : Int32).toInt = 165 := rfl
  unfold fX5_isKind
  refine k_if (fun c1_ => ?_) (fun c1_ => ?_)
  · skip
    exact k_rP (by first | assumption | decide)
  · skip
    refine k_if (fun c2_ => ?_) (fun c2_ => ?_)
    · skip
      exact k_rP (by first | assumption | decide)
    · skip
      refine k_if (fun c3_ => ?_) (fun c3_ => ?_)
      · skip
        exact k_rP (by first | assumption | decide)
      · skip
        refine k_if (fun c4_ => ?_) (fun c4_ => ?_)
        · skip
          refine k_if (fun c5_ => ?_) (fun c5_ => ?_)
          · skip
            exact k_rP (by first | assumption | decide)
          · skip
            exact k_rP (by first | assumption | decide)
        · skip
          exact k_rP (by first | assumption | decide)

-- fX5_addToName
set_option maxHeartbeats 4000000 in
theorem kX5_addToName {G : GT} {a0 : Nat} {a1 : Int64} {h : sm_H} (Wh : Wf G h) (t_a0 : tG G a0 1 0) : kJ (RW [(1, 0), (21, 0)] G h (fun (r : Int32) (_ : sm_H) => r = 0 ∨ r = 1)) (fX5_addToName (some a0) a1 h) := by
  have L0 : (0 : Int32).toInt = 0 := rfl
  have L1 : (1 : Int32).toInt = 1 := rfl
  have L16 : (16 : Int32).toInt = 16 := rfl
  unfold fX5_addToName
  refine k_obj Wh t_a0 (by decide) ?_
  refine k_cP (kX0_size Wh t_a0) (fun x11_ qx11_ => ?_)
  have x11_l := qx11_.1
  have x11_u := qx11_.2
  refine k_le (fun c2_ => ?_) (fun c2_ => ?_)
  · skip
    refine k_l1 (fun c3_ => ?_) (fun c3_ => ?_)
    · skip
      rw [if_neg (by decide)]
      refine k_obj Wh t_a0 (by decide) ?_
      refine k_cWW (kX0_add Wh t_a0) (by first | decide | exact fun _ q => q) (fun x34_ h5_ fh5_ qx34_ => ?_)
      have Wh5_ := fh5_.1
      refine k_if (fun c6_ => ?_) (fun c6_ => ?_)
      · skip
        exact k_rW Wh5_ (by first | assumption | decide)
      · skip
        rw [if_neg (by decide)]
        refine k_obj Wh5_ t_a0 (by decide) ?_
        refine k_cWW (kX0_add Wh5_ t_a0) (by first | decide | exact fun _ q => q) (fun x57_ h8_ fh8_ qx57_ => ?_)
        have Wh8_ := fh8_.1
        refine k_if (fun c9_ => ?_) (fun c9_ => ?_)
        · skip
          exact k_rW Wh8_ (by first | assumption | decide)
        · skip
          exact k_rW Wh8_ (by first | assumption | decide)
    · skip
      exact k_rW Wh (by first | assumption | decide)
  · skip
    refine k_obj Wh t_a0 (by decide) ?_
    refine k_cP (kX0_size Wh t_a0) (fun x910_ qx910_ => ?_)
    have x910_l := qx910_.1
    have x910_u := qx910_.2
    refine k_le (fun c11_ => ?_) (fun c11_ => ?_)
    · skip
      exact k_rW Wh (by first | assumption | decide)
    · skip
      refine k_obj Wh t_a0 (by decide) ?_
      refine k_cWW (kX0_add Wh t_a0) (by first | decide | exact fun _ q => q) (fun x1112_ h13_ fh13_ qx1112_ => ?_)
      have Wh13_ := fh13_.1
      refine k_if (fun c14_ => ?_) (fun c14_ => ?_)
      · skip
        exact k_rW Wh13_ (by first | assumption | decide)
      · skip
        exact k_rW Wh13_ (by first | assumption | decide)

-- fX5_takeName_9
set_option maxHeartbeats 4000000 in
theorem kX5_takeName_9 {G : GT} : ∀ (n : Nat) (a0 : Nat) (a1 : Nat) (a2 : Int32) (a3 : Int64) (a5 : Int32) (h : sm_H), Wf G h → tG G a0 6 0 → tG G a1 1 0 → a2.toInt ≤ 1200 → (∃ x : Int32, sm_get h (some a0) 5 2 = some (.int x) ∧ 1200 - x.toInt < (n : Int)) → kJ (RW [(1, 0), (6, 0), (21, 0)] G h (fun (r : Int32) (_ : sm_H) => r = 0 ∨ r = 1)) (fX5_takeName_9 n a0 (some a1) a2 a3 a5 h) := by
  have L0 : (0 : Int32).toInt = 0 := rfl
  have L1 : (1 : Int32).toInt = 1 := rfl
  have L2 : (2 : Int32).toInt = 2 := rfl
  have L7 : (7 : Int32).toInt = 7 := rfl
  intro n
  induction n with
  | zero => intro a0 a1 a2 a3 a5 h Wh t_a0 t_a1 p0_ m_; exact at_no Wh t_a0 m_
  | succ n ih =>
    intro a0 a1 a2 a3 a5 h Wh t_a0 t_a1 p0_ m_
    obtain ⟨xa, ea, ma⟩ := m_
    have ra := kw_at Wh t_a0 ea
    have ral := ra.1
    have rau := ra.2
    unfold fX5_takeName_9
    refine k_kI ea ?_
    refine k_le (fun c1_ => ?_) (fun c1_ => ?_)
    · skip
      refine k_if (fun c2_ => ?_) (fun c2_ => ?_)
      · skip
        refine k_obj Wh t_a1 (by decide) ?_
        refine k_cP (kX0_size Wh t_a1) (fun x23_ qx23_ => ?_)
        have x23_l := qx23_.1
        have x23_u := qx23_.2
        refine k_lt (fun c4_ => ?_) (fun c4_ => ?_)
        · skip
          exact k_rW Wh (by first | assumption | decide)
        · skip
          exact k_rW Wh (by first | assumption | decide)
      · skip
        exact k_rW Wh (by first | assumption | decide)
    · skip
      refine k_gR (r' := 1) Wh t_a0 (by decide) rfl rfl (fun x55_ e6_ tx55_ => ?_)
      refine k_kI ea ?_
      refine k_obj Wh tx55_ (by decide) ?_
      refine k_cP (kX0_at Wh tx55_) (fun x77_ qx77_ => ?_)
      refine k_kI ea ?_
      refine k_W t_a0 (by first | decide | simp) (w_putI Wh t_a0 (by decide) rfl (by first | omega | (rw [i_add1 (by omega)]; omega) | decide) (by first | omega | (rw [i_add1 (by omega)]; omega) | decide)) (fun h8_ oh8_ xh8_ => ?_)
      have Wh8_ := oh8_.1
      have e9_ := (xh8_ 2).trans (if_pos rfl)
      refine k_let (fun x1110_ => ?_)
      refine k_if (fun c11_ => ?_) (fun c11_ => ?_)
      · skip
        refine k_if (fun c12_ => ?_) (fun c12_ => ?_)
        · skip
          exact k_rW Wh8_ (by first | assumption | decide)
        · skip
          unfold fX5_takeName_66
          refine k_l2 (fun c13_ => ?_) (fun c13_ => ?_)
          · skip
            refine k_l1 (fun c14_ => ?_) (fun c14_ => ?_)
            · skip
              unfold fX5_takeName_90
              rw [if_pos (by decide)]
              refine k_cWW (kX5_addToName Wh8_ t_a1) (by first | decide | exact fun _ q => q) (fun x115_ h16_ fh16_ qx115_ => ?_)
              have Wh16_ := fh16_.1
              have e17_ := kg_fr (fh16_.2.2.2 _ (by rw [t_a0.1, t_a0.2]; first | decide | simp)) e9_
              refine k_if (fun c18_ => ?_) (fun c18_ => ?_)
              · skip
                exact k_rW Wh16_ (by first | assumption | decide)
              · skip
                unfold fX5_takeName_107
                rw [if_pos (by decide)]
                exact ih _ _ _ _ _ _ Wh16_ t_a0 t_a1 (by first | omega | assumption | decide) ⟨_, e17_, by first | (simp only [sm_fuel_eq]; omega) | omega | (rw [i_add1 (by omega)]; omega)⟩
            · skip
              unfold fX5_takeName_90
              rw [if_neg (by decide)]
              unfold fX5_takeName_107
              rw [if_neg (by decide)]
              exact ih _ _ _ _ _ _ Wh8_ t_a0 t_a1 (by first | omega | assumption | decide) ⟨_, e9_, by first | (simp only [sm_fuel_eq]; omega) | omega | (rw [i_add1 (by omega)]; omega)⟩
          · skip
            exact k_rW Wh8_ (by first | assumption | decide)
      · skip
        unfold fX5_takeName_66
        refine k_l2 (fun c19_ => ?_) (fun c19_ => ?_)
        · skip
          refine k_l1 (fun c20_ => ?_) (fun c20_ => ?_)
          · skip
            unfold fX5_takeName_90
            rw [if_pos (by decide)]
            refine k_cWW (kX5_addToName Wh8_ t_a1) (by first | decide | exact fun _ q => q) (fun x121_ h22_ fh22_ qx121_ => ?_)
            have Wh22_ := fh22_.1
            have e23_ := kg_fr (fh22_.2.2.2 _ (by rw [t_a0.1, t_a0.2]; first | decide | simp)) e9_
            refine k_if (fun c24_ => ?_) (fun c24_ => ?_)
            · skip
              exact k_rW Wh22_ (by first | assumption | decide)
            · skip
              unfold fX5_takeName_107
              rw [if_pos (by decide)]
              exact ih _ _ _ _ _ _ Wh22_ t_a0 t_a1 (by first | omega | assumption | decide) ⟨_, e23_, by first | (simp only [sm_fuel_eq]; omega) | omega | (rw [i_add1 (by omega)]; omega)⟩
          · skip
            unfold fX5_takeName_90
            rw [if_neg (by decide)]
            unfold fX5_takeName_107
            rw [if_neg (by decide)]
            exact ih _ _ _ _ _ _ Wh8_ t_a0 t_a1 (by first | omega | assumption | decide) ⟨_, e9_, by first | (simp only [sm_fuel_eq]; omega) | omega | (rw [i_add1 (by omega)]; omega)⟩
        · skip
          exact k_rW Wh8_ (by first | assumption | decide)

-- fX5_takeName
set_option maxHeartbeats 4000000 in
theorem kX5_takeName {G : GT} {a0 : Nat} {a1 : Nat} {a2 : Int32} {h : sm_H} (Wh : Wf G h) (t_a0 : tG G a0 6 0) (t_a1 : tG G a1 1 0) (p0_ : a2.toInt ≤ 1200) : kJ (RW [(1, 0), (6, 0), (21, 0)] G h (fun (r : Int32) (_ : sm_H) => r = 0 ∨ r = 1)) (fX5_takeName a0 (some a1) a2 h) := by
  have L0 : (0 : Int32).toInt = 0 := rfl
  have L1 : (1 : Int32).toInt = 1 := rfl
  unfold fX5_takeName
  refine k_obj Wh t_a1 (by decide) ?_
  refine k_cWW (kX0_clear Wh t_a1) (by first | decide | exact fun _ q => q) (fun v1_ h2_ fh2_ qv1_ => ?_)
  have Wh2_ := fh2_.1
  exact k_WW (kX5_takeName_9 _ _ _ _ _ _ _ Wh2_ t_a0 t_a1 (by first | omega | assumption | decide) (at_ex Wh2_ t_a0 (by simp only [sm_fuel_eq]; omega))) (by first | decide | exact fun _ q => q) (fun _ _ _ q => q)

-- fX5_takeAddress_12
set_option maxHeartbeats 4000000 in
theorem kX5_takeAddress_12 {G : GT} : ∀ (n : Nat) (a0 : Nat) (a1 : Nat) (a2 : Int32) (h : sm_H), Wf G h → tG G a0 6 0 → tG G a1 11 0 → a2.toInt ≤ 1200 → (∃ x : Int32, sm_get h (some a0) 5 2 = some (.int x) ∧ 1200 - x.toInt < (n : Int)) → kJ (RW [(6, 0), (11, 0)] G h (fun (r : Int32) (_ : sm_H) => r = 0 ∨ r = 1)) (fX5_takeAddress_12 n a0 (some a1) a2 h) := by
  have L0 : (0 : Int32).toInt = 0 := rfl
  have L1 : (1 : Int32).toInt = 1 := rfl
  have L8 : (8 : Int32).toInt = 8 := rfl
  intro n
  induction n with
  | zero => intro a0 a1 a2 h Wh t_a0 t_a1 p0_ m_; exact at_no Wh t_a0 m_
  | succ n ih =>
    intro a0 a1 a2 h Wh t_a0 t_a1 p0_ m_
    obtain ⟨xa, ea, ma⟩ := m_
    have ra := kw_at Wh t_a0 ea
    have ral := ra.1
    have rau := ra.2
    unfold fX5_takeAddress_12
    refine k_kI ea ?_
    refine k_le (fun c1_ => ?_) (fun c1_ => ?_)
    · skip
      exact k_rW Wh (by first | assumption | decide)
    · skip
      refine k_gJ Wh t_a1 (by decide) rfl (fun x22_ e3_ => ?_)
      refine k_gR (r' := 1) Wh t_a0 (by decide) rfl rfl (fun x34_ e5_ tx34_ => ?_)
      refine k_kI ea ?_
      refine k_obj Wh tx34_ (by decide) ?_
      refine k_cP (kX0_at Wh tx34_) (fun x56_ qx56_ => ?_)
      refine k_W t_a1 (by first | decide | simp) (w_putJ Wh t_a1 (by decide) rfl) (fun h7_ oh7_ xh7_ => ?_)
      have Wh7_ := oh7_.1
      have e8_ := kg_fr (oh7_.2.2.2 _ (tg_ne t_a0 t_a1 (by simp))) ea
      refine k_kI e8_ ?_
      refine k_W t_a0 (by first | decide | simp) (w_putI Wh7_ t_a0 (by decide) rfl (by first | omega | (rw [i_add1 (by omega)]; omega) | decide) (by first | omega | (rw [i_add1 (by omega)]; omega) | decide)) (fun h9_ oh9_ xh9_ => ?_)
      have Wh9_ := oh9_.1
      have e10_ := (xh9_ 2).trans (if_pos rfl)
      exact ih _ _ _ _ Wh9_ t_a0 t_a1 (by first | omega | assumption | decide) ⟨_, e10_, by first | (simp only [sm_fuel_eq]; omega) | omega | (rw [i_add1 (by omega)]; omega)⟩

-- fX5_takeAddress
set_option maxHeartbeats 4000000 in
theorem kX5_takeAddress {G : GT} {a0 : Nat} {a1 : Nat} {a2 : Int32} {h : sm_H} (Wh : Wf G h) (t_a0 : tG G a0 6 0) (t_a1 : tG G a1 11 0) (p0_ : a2.toInt ≤ 1200) : kJ (RW [(6, 0), (11, 0)] G h (fun (r : Int32) (_ : sm_H) => r = 0 ∨ r = 1)) (fX5_takeAddress a0 (some a1) a2 h) := by
  have L0 : (0 : Int32).toInt = 0 := rfl
  have L1 : (1 : Int32).toInt = 1 := rfl
  have L4 : (4 : Int32).toInt = 4 := rfl
  unfold fX5_takeAddress
  refine k_gI Wh t_a0 (by decide) rfl (fun x11_ e2_ x11_l x11_u => ?_)
  refine k_if (fun c3_ => ?_) (fun c3_ => ?_)
  · skip
    exact k_WW (kX5_takeAddress_12 _ _ _ _ _ Wh t_a0 t_a1 (by first | omega | assumption | decide) ⟨_, e2_, by first | (simp only [sm_fuel_eq]; omega) | omega | (rw [i_add1 (by omega)]; omega)⟩) (by first | decide | exact fun _ q => q) (fun _ _ _ q => q)
  · skip
    exact k_rW Wh (by first | assumption | decide)

-- fX11_isObjectTag
set_option maxHeartbeats 4000000 in
theorem kX11_isObjectTag {G : GT} {a0 : Int32} {h : sm_H} (Wh : Wf G h) : kJ (RP G h (fun r : Int32 => r = 0 ∨ r = 1)) (fX11_isObjectTag a0 h) := by
  have L0 : (0 : Int32).toInt = 0 := rfl
  have L1 : (1 : Int32).toInt = 1 := rfl
  have L2 : (2 : Int32).toInt = 2 := rfl
  have L4 : (4 : Int32).toInt = 4 := rfl
  have L6 : (6 : Int32).toInt = 6 := rfl
  have L64 : (64 : Int32).toInt = 64 := rfl
  have L65 : (65 : Int32).toInt = 65 := rfl
  have L66 : (66 : Int32).toInt = 66 := rfl
  have L67 : (67 : Int32).toInt = 67 := rfl
  have L70 : (70 : Int32).toInt = 70 := rfl
  unfold fX11_isObjectTag
  refine k_if (fun c1_ => ?_) (fun c1_ => ?_)
  · skip
    exact k_rP (by first | assumption | decide)
  · skip
    refine k_if (fun c2_ => ?_) (fun c2_ => ?_)
    · skip
      exact k_rP (by first | assumption | decide)
    · skip
      refine k_if (fun c3_ => ?_) (fun c3_ => ?_)
      · skip
        exact k_rP (by first | assumption | decide)
      · skip
        refine k_if (fun c4_ => ?_) (fun c4_ => ?_)
        · skip
          exact k_rP (by first | assumption | decide)
        · skip
          refine k_if (fun c5_ => ?_) (fun c5_ => ?_)
          · skip
            exact k_rP (by first | assumption | decide)
          · skip
            refine k_if (fun c6_ => ?_) (fun c6_ => ?_)
            · skip
              exact k_rP (by first | assumption | decide)
            · skip
              refine k_if (fun c7_ => ?_) (fun c7_ => ?_)
              · skip
                exact k_rP (by first | assumption | decide)
              · skip
                refine k_if (fun c8_ => ?_) (fun c8_ => ?_)
                · skip
                  exact k_rP (by first | assumption | decide)
                · skip
                  exact k_rP (by first | assumption | decide)

-- fX5_readValue
set_option maxHeartbeats 4000000 in
theorem kX5_readValue {G : GT} {a0 : Nat} {a1 : Nat} {a2 : Int32} {h : sm_H} (Wh : Wf G h) (t_a0 : tG G a0 6 0) (t_a1 : tG G a1 11 0) (p0_ : a2.toInt ≤ 1200) : kJ (RW [(1, 0), (6, 0), (11, 0), (21, 0)] G h (fun (r : Int32) (_ : sm_H) => r = 0 ∨ r = 1)) (fX5_readValue a0 (some a1) a2 h) := by
  have L0 : (0 : Int32).toInt = 0 := rfl
  have L1 : (1 : Int32).toInt = 1 := rfl
  have L4 : (4 : Int32).toInt = 4 := rfl
  have L5 : (5 : Int32).toInt = 5 := rfl
  have L6 : (6 : Int32).toInt = 6 := rfl
  have L64 : (64 : Int32).toInt = 64 := rfl
  unfold fX5_readValue
  refine k_gR (r' := 1) Wh t_a0 (by decide) rfl rfl (fun x11_ e2_ tx11_ => ?_)
  refine k_gI Wh t_a0 (by decide) rfl (fun x23_ e4_ x23_l x23_u => ?_)
  refine k_obj Wh tx11_ (by decide) ?_
  refine k_cP (kX0_at Wh tx11_) (fun x35_ qx35_ => ?_)
  refine k_let (fun x56_ => ?_)
  refine k_obj Wh t_a0 (by decide) ?_
  refine k_cWW (kX5_enter Wh t_a0 (by first | omega | assumption | decide)) (by first | decide | exact fun _ q => q) (fun x67_ h8_ fh8_ qx67_ => ?_)
  have Wh8_ := fh8_.1
  have x67_l := qx67_.1
  have x67_u := qx67_.2
  refine k_le (fun c9_ => ?_) (fun c9_ => ?_)
  · skip
    refine k_obj Wh8_ t_a1 (by decide) ?_
    refine k_cWW (kX10_becomeEmpty Wh8_ t_a1) (by first | decide | exact fun _ q => q) (fun v10_ h11_ fh11_ qv10_ => ?_)
    have Wh11_ := fh11_.1
    refine k_if (fun c12_ => ?_) (fun c12_ => ?_)
    · skip
      refine k_gR (r' := 0) Wh11_ t_a1 (by decide) rfl rfl (fun x913_ e14_ tx913_ => ?_)
      refine k_obj Wh11_ t_a0 (by decide) ?_
      refine k_cWW (kX5_takeText Wh11_ t_a0 tx913_ (by first | omega | assumption | decide)) (by first | decide | exact fun _ q => q) (fun x1015_ h16_ fh16_ qx1015_ => ?_)
      have Wh16_ := fh16_.1
      rw [if_pos (by first | assumption | decide)]
      exact k_rW Wh16_ (by first | assumption | decide)
    · skip
      refine k_if (fun c17_ => ?_) (fun c17_ => ?_)
      · skip
        refine k_gI Wh11_ t_a0 (by decide) rfl (fun x1418_ e19_ x1418_l x1418_u => ?_)
        refine k_if (fun c20_ => ?_) (fun c20_ => ?_)
        · skip
          exact k_rW Wh11_ (by first | assumption | decide)
        · skip
          exact k_rW Wh11_ (by first | assumption | decide)
      · skip
        refine k_if (fun c21_ => ?_) (fun c21_ => ?_)
        · skip
          refine k_gR (r' := 0) Wh11_ t_a1 (by decide) rfl rfl (fun x1622_ e23_ tx1622_ => ?_)
          refine k_obj Wh11_ t_a0 (by decide) ?_
          refine k_cWW (kX5_takeName Wh11_ t_a0 tx1622_ (by first | omega | assumption | decide)) (by first | decide | exact fun _ q => q) (fun x1724_ h25_ fh25_ qx1724_ => ?_)
          have Wh25_ := fh25_.1
          rw [if_pos (by first | assumption | decide)]
          exact k_rW Wh25_ (by first | assumption | decide)
        · skip
          refine k_if (fun c26_ => ?_) (fun c26_ => ?_)
          · skip
            refine k_obj Wh11_ t_a0 (by decide) ?_
            refine k_cWW (kX5_takeAddress Wh11_ t_a0 t_a1 (by first | omega | assumption | decide)) (by first | decide | exact fun _ q => q) (fun x2127_ h28_ fh28_ qx2127_ => ?_)
            have Wh28_ := fh28_.1
            rw [if_pos (by first | assumption | decide)]
            exact k_rW Wh28_ (by first | assumption | decide)
          · skip
            refine k_cP (kX11_isObjectTag Wh11_ ) (fun x2529_ qx2529_ => ?_)
            refine k_if (fun c30_ => ?_) (fun c30_ => ?_)
            · skip
              exact k_rW Wh11_ (by first | assumption | decide)
            · skip
              refine k_obj Wh11_ t_a0 (by decide) ?_
              refine k_cWW (kX5_takeNumber Wh11_ t_a0 t_a1 (by first | omega | assumption | decide)) (by first | decide | exact fun _ q => q) (fun x2731_ h32_ fh32_ qx2731_ => ?_)
              have Wh32_ := fh32_.1
              refine k_if (fun c33_ => ?_) (fun c33_ => ?_)
              · skip
                exact k_rW Wh32_ (by first | assumption | decide)
              · skip
                exact k_rW Wh32_ (by first | assumption | decide)
  · skip
    exact k_rW Wh8_ (by first | assumption | decide)

-- fX5_readPair
set_option maxHeartbeats 4000000 in
theorem kX5_readPair {G : GT} {a0 : Nat} {a1 : Nat} {h : sm_H} (Wh : Wf G h) (t_a0 : tG G a0 6 0) (t_a1 : tG G a1 5 0) : kJ (RW [(1, 0), (6, 0), (11, 0), (21, 0)] G h (fun (r : Int32) (_ : sm_H) => r = 0 ∨ r = 1)) (fX5_readPair a0 (some a1) h) := by
  have Lm1 : (-1 : Int32).toInt = -1 := rfl
  have L0 : (0 : Int32).toInt = 0 := rfl
  have L1 : (1 : Int32).toInt = 1 := rfl
  have L6 : (6 : Int32).toInt = 6 := rfl
  have L48 : (48 : Int32).toInt = 48 := rfl
  unfold fX5_readPair
  refine k_gR (r' := 1) Wh t_a0 (by decide) rfl rfl (fun x11_ e2_ tx11_ => ?_)
  refine k_obj Wh tx11_ (by decide) ?_
  refine k_cP (kX0_size Wh tx11_) (fun x23_ qx23_ => ?_)
  have x23_l := qx23_.1
  have x23_u := qx23_.2
  refine k_obj Wh t_a0 (by decide) ?_
  refine k_cWW (kX5_enter Wh t_a0 (by first | omega | assumption | decide)) (by first | decide | exact fun _ q => q) (fun x44_ h5_ fh5_ qx44_ => ?_)
  have Wh5_ := fh5_.1
  have x44_l := qx44_.1
  have x44_u := qx44_.2
  refine k_le (fun c6_ => ?_) (fun c6_ => ?_)
  · skip
    refine k_obj Wh5_ t_a0 (by decide) ?_
    refine k_cWW (kX5_enter Wh5_ t_a0 (by first | omega | assumption | decide)) (by first | decide | exact fun _ q => q) (fun x67_ h8_ fh8_ qx67_ => ?_)
    have Wh8_ := fh8_.1
    have x67_l := qx67_.1
    have x67_u := qx67_.2
    unfold fX5_readPair_29
    refine k_lt (fun c9_ => ?_) (fun c9_ => ?_)
    · skip
      exact k_rW Wh8_ (by first | assumption | decide)
    · skip
      refine k_gR (r' := 0) Wh8_ t_a1 (by decide) rfl rfl (fun x110_ e11_ tx110_ => ?_)
      refine k_obj Wh8_ t_a0 (by decide) ?_
      refine k_cWW (kX5_takeName Wh8_ t_a0 tx110_ (by first | omega | assumption | decide)) (by first | decide | exact fun _ q => q) (fun x212_ h13_ fh13_ qx212_ => ?_)
      have Wh13_ := fh13_.1
      refine k_if (fun c14_ => ?_) (fun c14_ => ?_)
      · skip
        exact k_rW Wh13_ (by first | assumption | decide)
      · skip
        refine k_gR (r' := 0) Wh13_ t_a1 (by decide) rfl rfl (fun x415_ e16_ tx415_ => ?_)
        refine k_obj Wh13_ t_a0 (by decide) ?_
        refine k_cWW (kX5_readValue Wh13_ t_a0 tx415_ (by first | omega | assumption | decide)) (by first | decide | exact fun _ q => q) (fun x517_ h18_ fh18_ qx517_ => ?_)
        have Wh18_ := fh18_.1
        refine k_if (fun c19_ => ?_) (fun c19_ => ?_)
        · skip
          exact k_rW Wh18_ (by first | assumption | decide)
        · skip
          refine k_gI Wh18_ t_a0 (by decide) rfl (fun x720_ e21_ x720_l x720_u => ?_)
          refine k_if (fun c22_ => ?_) (fun c22_ => ?_)
          · skip
            exact k_rW Wh18_ (by first | assumption | decide)
          · skip
            exact k_rW Wh18_ (by first | assumption | decide)
  · skip
    unfold fX5_readPair_29
    rw [if_pos (by decide)]
    exact k_rW Wh5_ (by first | assumption | decide)

-- fX5_readBody_122
set_option maxHeartbeats 4000000 in
theorem kX5_readBody_122 {G : GT} : ∀ (n : Nat) (a0 : Nat) (a1 : Nat) (a2 : Int32) (h : sm_H), Wf G h → tG G a0 6 0 → tG G a1 4 0 → 0 ≤ a2.toInt → a2.toInt ≤ 20 → (∃ x : Int32, sm_get h (some a1) 3 8 = some (.int x) ∧ x.toInt ≤ a2.toInt) → 20 - a2.toInt < (n : Int) → kJ (RW [(1, 0), (4, 0), (6, 0), (11, 0), (21, 0)] G h (fun (r : Int32) (_ : sm_H) => r = 0 ∨ r = 1)) (fX5_readBody_122 n a0 (some a1) a2 h) := by
  have L0 : (0 : Int32).toInt = 0 := rfl
  have L1 : (1 : Int32).toInt = 1 := rfl
  have L20 : (20 : Int32).toInt = 20 := rfl
  intro n
  induction n with
  | zero => intro a0 a1 a2 h Wh t_a0 t_a1 p0_ p1_ c_ m_; exfalso; omega
  | succ n ih =>
    intro a0 a1 a2 h Wh t_a0 t_a1 p0_ p1_ c_ m_
    obtain ⟨xa, ea, ma⟩ := c_
    have ra := kw_cnt Wh t_a1 ea
    have ral := ra.1
    unfold fX5_readBody_122
    refine k_le (fun c1_ => ?_) (fun c1_ => ?_)
    · skip
      unfold fX5_readBody_178
      refine k_gI Wh t_a0 (by decide) rfl (fun x12_ e3_ x12_l x12_u => ?_)
      refine k_gR (r' := 1) Wh t_a0 (by decide) rfl rfl (fun x24_ e5_ tx24_ => ?_)
      refine k_obj Wh tx24_ (by decide) ?_
      refine k_cP (kX0_size Wh tx24_) (fun x36_ qx36_ => ?_)
      have x36_l := qx36_.1
      have x36_u := qx36_.2
      refine k_if (fun c7_ => ?_) (fun c7_ => ?_)
      · skip
        exact k_rW Wh (by first | assumption | decide)
      · skip
        exact k_rW Wh (by first | assumption | decide)
    · skip
      refine k_gI Wh t_a0 (by decide) rfl (fun x18_ e9_ x18_l x18_u => ?_)
      refine k_gR (r' := 1) Wh t_a0 (by decide) rfl rfl (fun x210_ e11_ tx210_ => ?_)
      refine k_obj Wh tx210_ (by decide) ?_
      refine k_cP (kX0_size Wh tx210_) (fun x312_ qx312_ => ?_)
      have x312_l := qx312_.1
      have x312_u := qx312_.2
      refine k_le (fun c13_ => ?_) (fun c13_ => ?_)
      · skip
        unfold fX5_readBody_178
        refine k_kI e9_ ?_
        refine k_kR e11_ ?_
        refine k_obj Wh tx210_ (by decide) ?_
        refine k_cP (kX0_size Wh tx210_) (fun x314_ qx314_ => ?_)
        have x314_l := qx314_.1
        have x314_u := qx314_.2
        refine k_if (fun c15_ => ?_) (fun c15_ => ?_)
        · skip
          exact k_rW Wh (by first | assumption | decide)
        · skip
          exact k_rW Wh (by first | assumption | decide)
      · skip
        refine k_obj Wh t_a1 (by decide) ?_
        refine k_cP (kX3_pairAt Wh t_a1) (fun x516_ qx516_ => ?_)
        rcases x516_ with _ | x516_s
        · rw [if_pos rfl]
          exact k_rW Wh (by first | assumption | decide)
        · rw [if_neg (by simp)]
          have tx516_s := qx516_ x516_s rfl
          refine k_obj Wh t_a0 (by decide) ?_
          refine k_cWW (kX5_readPair Wh t_a0 tx516_s) (by first | decide | exact fun _ q => q) (fun x717_ h18_ fh18_ qx717_ => ?_)
          have Wh18_ := fh18_.1
          have e19_ := kg_fr (fh18_.2.2.2 _ (by rw [t_a1.1, t_a1.2]; first | decide | simp)) ea
          refine k_if (fun c20_ => ?_) (fun c20_ => ?_)
          · skip
            exact k_rW Wh18_ (by first | assumption | decide)
          · skip
            refine k_kI e19_ ?_
            refine k_W t_a1 (by first | decide | simp) (w_putI Wh18_ t_a1 (by decide) rfl (by first | omega | (rw [i_add1 (by omega)]; omega) | decide) (by first | omega | (rw [i_add1 (by omega)]; omega) | decide)) (fun h21_ oh21_ xh21_ => ?_)
            have Wh21_ := oh21_.1
            have e22_ := (xh21_ 8).trans (if_pos rfl)
            first | refine k_add (by omega) (by omega) (fun x1123_ x1123_q => ?_) | refine k_let (fun x1123_ => ?_)
            exact ih _ _ _ _ Wh21_ t_a0 t_a1 (by first | omega | assumption | decide) (by first | omega | assumption | decide) ⟨_, e22_, by first | omega | (rw [i_add1 (by omega)]; omega) | decide⟩ (by omega)
