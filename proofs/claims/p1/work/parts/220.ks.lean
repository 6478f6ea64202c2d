-- fX11_tellValues
set_option maxHeartbeats 4000000 in
theorem kX11_tellValues {G : GT} {a0 : Nat} {h : sm_H} (Wh : Wf G h) (t_a0 : tG G a0 12 0) : kJ (RW [(1, 0), (5, 0), (7, 0), (21, 0)] G h (fun (r : Unit) (_ : sm_H) => True)) (fX11_tellValues a0 h) := by
  have L0 : (0 : Int32).toInt = 0 := rfl
  have L1 : (1 : Int32).toInt = 1 := rfl
  unfold fX11_tellValues
  exact k_WW (kX11_tellValues_2 _ _ _ _ Wh t_a0 (by first | omega | assumption | decide) (by first | omega | assumption | decide) (by simp only [sm_fuel_eq]; omega)) (by first | decide | exact fun _ q => q) (fun _ _ _ q => q)

-- fX11_nextOf_22
set_option maxHeartbeats 4000000 in
theorem kX11_nextOf_22 {G : GT} : ∀ (n : Nat) (a0 : Nat) (a1 : Nat) (a3 : Option Nat) (a4 : Int64) (a6 : Int32) (h : sm_H), Wf G h → tG G a0 12 0 → tG G a1 9 0 → tN G a3 3 0 → 0 ≤ a6.toInt → a6.toInt ≤ 1200 → 1200 - a6.toInt < (n : Int) → kJ (RW [(1, 0), (21, 0)] G h (fun (r : Option Nat) (_ : sm_H) => tN G r 11 0)) (fX11_nextOf_22 n a0 (some a1) a3 a4 a6 h) := by
  have L0 : (0 : Int32).toInt = 0 := rfl
  have L1 : (1 : Int32).toInt = 1 := rfl
  have L16 : (16 : Int32).toInt = 16 := rfl
  intro n
  induction n with
  | zero => intro a0 a1 a3 a4 a6 h Wh t_a0 t_a1 t_a3 p0_ p1_ m_; exfalso; omega
  | succ n ih =>
    intro a0 a1 a3 a4 a6 h Wh t_a0 t_a1 t_a3 p0_ p1_ m_
    unfold fX11_nextOf_22
    refine k_le (fun c1_ => ?_) (fun c1_ => ?_)
    · skip
      exact k_rW Wh tN_n
    · skip
      refine k_l1 (fun c2_ => ?_) (fun c2_ => ?_)
      · skip
        exact k_rW Wh tN_n
      · skip
        rcases a3 with _ | a3s
        · rw [if_pos rfl]
          exact k_rW Wh tN_n
        · rw [if_neg (by simp)]
          have ta3s := t_a3 a3s rfl
          refine k_gR (r' := 0) Wh t_a0 (by decide) rfl rfl (fun x13_ e4_ tx13_ => ?_)
          refine k_gR (r' := 0) Wh t_a1 (by decide) rfl rfl (fun x25_ e6_ tx25_ => ?_)
          refine k_obj Wh tx13_ (by decide) ?_
          refine k_cWW (kX0_copy Wh tx13_ tx25_) (by first | decide | exact fun _ q => q) (fun v7_ h8_ fh8_ qv7_ => ?_)
          have Wh8_ := fh8_.1
          have e9_ := kg_fr (fh8_.2.2.2 _ (by rw [t_a0.1, t_a0.2]; first | decide | simp)) e4_
          refine k_kR e9_ ?_
          refine k_obj Wh8_ tx13_ (by decide) ?_
          refine k_cWW (kX0_add Wh8_ tx13_) (by first | decide | exact fun _ q => q) (fun x510_ h11_ fh11_ qx510_ => ?_)
          have Wh11_ := fh11_.1
          have e12_ := kg_fr (fh11_.2.2.2 _ (by rw [t_a0.1, t_a0.2]; first | decide | simp)) e9_
          refine k_kR e12_ ?_
          refine k_obj Wh11_ ta3s (by decide) ?_
          refine k_cP (kX2_shows Wh11_ ta3s tx13_) (fun x813_ qx813_ => ?_)
          refine k_if (fun c14_ => ?_) (fun c14_ => ?_)
          · skip
            refine k_obj Wh11_ t_a1 (by decide) ?_
            refine k_cP (kX8_indexAbove Wh11_ t_a1) (fun x1015_ qx1015_ => ?_)
            first | refine k_add (by omega) (by omega) (fun x1216_ x1216_q => ?_) | refine k_let (fun x1216_ => ?_)
            exact ih _ _ _ _ _ _ Wh11_ t_a0 t_a1 (tN_s ta3s) (by first | omega | assumption | decide) (by first | omega | assumption | decide) (by omega)
          · skip
            refine k_obj Wh11_ t_a1 (by decide) ?_
            refine k_cP (kX8_tellsClock Wh11_ t_a1) (fun x1417_ qx1417_ => ?_)
            refine k_if (fun c18_ => ?_) (fun c18_ => ?_)
            · skip
              refine k_obj Wh11_ t_a1 (by decide) ?_
              refine k_cP (kX8_cellFor Wh11_ t_a1) (fun x1619_ qx1619_ => ?_)
              exact k_rW Wh11_ qx1619_
            · skip
              refine k_gR (r' := 0) Wh11_ t_a0 (by decide) rfl rfl (fun x1920_ e21_ tx1920_ => ?_)
              exact k_rW Wh11_ (tN_s tx1920_)

-- fX11_nextOf
set_option maxHeartbeats 4000000 in
theorem kX11_nextOf {G : GT} {r_a2 : Nat} {a0 : Nat} {a1 : Nat} {a2 : Nat} {h : sm_H} (Wh : Wf G h) (t_a0 : tG G a0 12 0) (t_a1 : tG G a1 9 0) (t_a2 : tG G a2 1 r_a2) : kJ (RW [(1, 0), (21, 0)] G h (fun (r : Option Nat) (_ : sm_H) => tN G r 11 0)) (fX11_nextOf a0 (some a1) (some a2) h) := by
  have L0 : (0 : Int32).toInt = 0 := rfl
  have L1 : (1 : Int32).toInt = 1 := rfl
  unfold fX11_nextOf
  refine k_gR (r' := 0) Wh t_a0 (by decide) rfl rfl (fun x11_ e2_ tx11_ => ?_)
  refine k_gN (r' := 0) Wh tx11_ (by decide) rfl rfl (fun x23_ e4_ tx23_ => ?_)
  refine k_obj Wh t_a1 (by decide) ?_
  refine k_cP (kX8_passedBy Wh t_a1 t_a2) (fun x35_ qx35_ => ?_)
  refine k_obj Wh t_a1 (by decide) ?_
  refine k_cP (kX8_indexAbove Wh t_a1) (fun x56_ qx56_ => ?_)
  exact k_WW (kX11_nextOf_22 _ _ _ _ _ _ _ Wh t_a0 t_a1 tx23_ (by first | omega | assumption | decide) (by first | omega | assumption | decide) (by simp only [sm_fuel_eq]; omega)) (by first | decide | exact fun _ q => q) (fun _ _ _ q => q)

-- fX11_nextAfter_2
set_option maxHeartbeats 4000000 in
theorem kX11_nextAfter_2 {G : GT} {r_a1 : Nat} : ∀ (n : Nat) (a0 : Nat) (a1 : Nat) (a2 : Int32) (h : sm_H), Wf G h → tG G a0 12 0 → tG G a1 1 r_a1 → 0 ≤ a2.toInt → a2.toInt ≤ 1200 → 1200 - a2.toInt < (n : Int) → kJ (RW [(1, 0), (21, 0)] G h (fun (r : Option Nat) (_ : sm_H) => ∃ b, r = some b ∧ tG G b 11 0)) (fX11_nextAfter_2 n a0 (some a1) a2 h) := by
  have L0 : (0 : Int32).toInt = 0 := rfl
  have L1 : (1 : Int32).toInt = 1 := rfl
  intro n
  induction n with
  | zero => intro a0 a1 a2 h Wh t_a0 t_a1 p0_ p1_ m_; exfalso; omega
  | succ n ih =>
    intro a0 a1 a2 h Wh t_a0 t_a1 p0_ p1_ m_
    unfold fX11_nextAfter_2
    refine k_gR (r' := 0) Wh t_a0 (by decide) rfl rfl (fun x11_ e2_ tx11_ => ?_)
    refine k_obj Wh tx11_ (by decide) ?_
    refine k_cP (kX9_thingCount Wh tx11_) (fun x23_ qx23_ => ?_)
    have x23_l := qx23_.1
    have x23_u := qx23_.2
    refine k_le (fun c4_ => ?_) (fun c4_ => ?_)
    · skip
      refine k_gR (r' := 0) Wh t_a0 (by decide) rfl rfl (fun x45_ e6_ tx45_ => ?_)
      refine k_obj Wh tx45_ (by decide) ?_
      refine k_cWW (kX0_copy Wh tx45_ t_a1) (by first | decide | exact fun _ q => q) (fun v7_ h8_ fh8_ qv7_ => ?_)
      have Wh8_ := fh8_.1
      refine k_gR (r' := 0) Wh8_ t_a0 (by decide) rfl rfl (fun x69_ e10_ tx69_ => ?_)
      exact k_rW Wh8_ ⟨_, rfl, tx69_⟩
    · skip
      refine k_kR e2_ ?_
      refine k_obj Wh tx11_ (by decide) ?_
      refine k_cP (kX9_thingInOrder Wh tx11_) (fun x911_ qx911_ => ?_)
      rcases x911_ with _ | x911_s
      · rw [if_pos rfl]
        unfold fX11_nextAfter_43
        rw [if_pos rfl]
        first | refine k_add (by omega) (by omega) (fun x112_ x112_q => ?_) | refine k_let (fun x112_ => ?_)
        exact ih _ _ _ _ Wh t_a0 t_a1 (by first | omega | assumption | decide) (by first | omega | assumption | decide) (by omega)
      · rw [if_neg (by simp)]
        have tx911_s := qx911_ x911_s rfl
        refine k_gI Wh tx911_s (by decide) rfl (fun x1113_ e14_ x1113_l x1113_u => ?_)
        refine k_if (fun c15_ => ?_) (fun c15_ => ?_)
        · skip
          unfold fX11_nextAfter_43
          rw [if_pos rfl]
          first | refine k_add (by omega) (by omega) (fun x116_ x116_q => ?_) | refine k_let (fun x116_ => ?_)
          exact ih _ _ _ _ Wh t_a0 t_a1 (by first | omega | assumption | decide) (by first | omega | assumption | decide) (by omega)
        · skip
          refine k_obj Wh t_a0 (by decide) ?_
          refine k_cWW (kX11_nextOf Wh t_a0 tx911_s t_a1) (by first | decide | exact fun _ q => q) (fun x1217_ h18_ fh18_ qx1217_ => ?_)
          have Wh18_ := fh18_.1
          unfold fX11_nextAfter_43
          rcases x1217_ with _ | x1217_s
          · rw [if_pos rfl]
            first | refine k_add (by omega) (by omega) (fun x119_ x119_q => ?_) | refine k_let (fun x119_ => ?_)
            exact ih _ _ _ _ Wh18_ t_a0 t_a1 (by first | omega | assumption | decide) (by first | omega | assumption | decide) (by omega)
          · rw [if_neg (by simp)]
            have tx1217_s := qx1217_ x1217_s rfl
            exact k_rW Wh18_ ⟨_, rfl, tx1217_s⟩

-- fX11_nextAfter
set_option maxHeartbeats 4000000 in
theorem kX11_nextAfter {G : GT} {r_a1 : Nat} {a0 : Nat} {a1 : Nat} {h : sm_H} (Wh : Wf G h) (t_a0 : tG G a0 12 0) (t_a1 : tG G a1 1 r_a1) : kJ (RW [(1, 0), (21, 0)] G h (fun (r : Option Nat) (_ : sm_H) => ∃ b, r = some b ∧ tG G b 11 0)) (fX11_nextAfter a0 (some a1) h) := by
  have L0 : (0 : Int32).toInt = 0 := rfl
  have L1 : (1 : Int32).toInt = 1 := rfl
  unfold fX11_nextAfter
  exact k_WW (kX11_nextAfter_2 _ _ _ _ _ Wh t_a0 t_a1 (by first | omega | assumption | decide) (by first | omega | assumption | decide) (by simp only [sm_fuel_eq]; omega)) (by first | decide | exact fun _ q => q) (fun _ _ _ q => q)

-- fX11_tellNexts_2
set_option maxHeartbeats 4000000 in
theorem kX11_tellNexts_2 {G : GT} : ∀ (n : Nat) (a0 : Nat) (a1 : Int32) (h : sm_H), Wf G h → tG G a0 12 0 → 0 ≤ a1.toInt → a1.toInt ≤ 1200 → 1200 - a1.toInt < (n : Int) → kJ (RW [(1, 0), (5, 0), (7, 0), (21, 0)] G h (fun (r : Unit) (_ : sm_H) => True)) (fX11_tellNexts_2 n a0 a1 h) := by
  have L0 : (0 : Int32).toInt = 0 := rfl
  have L1 : (1 : Int32).toInt = 1 := rfl
  have L2 : (2 : Int32).toInt = 2 := rfl
  intro n
  induction n with
  | zero => intro a0 a1 h Wh t_a0 p0_ p1_ m_; exfalso; omega
  | succ n ih =>
    intro a0 a1 h Wh t_a0 p0_ p1_ m_
    unfold fX11_tellNexts_2
    refine k_gR (r' := 0) Wh t_a0 (by decide) rfl rfl (fun x11_ e2_ tx11_ => ?_)
    refine k_gI Wh tx11_ (by decide) rfl (fun x23_ e4_ x23_l x23_u => ?_)
    refine k_le (fun c5_ => ?_) (fun c5_ => ?_)
    · skip
      exact k_rW Wh trivial
    · skip
      refine k_kR e2_ ?_
      refine k_obj Wh tx11_ (by decide) ?_
      refine k_cP (kX3_pairAt Wh tx11_) (fun x46_ qx46_ => ?_)
      rcases x46_ with _ | x46_s
      · rw [if_pos rfl]
        exact k_rW Wh trivial
      · rw [if_neg (by simp)]
        have tx46_s := qx46_ x46_s rfl
        refine k_gR (r' := 0) Wh tx46_s (by decide) rfl rfl (fun x67_ e8_ tx67_ => ?_)
        refine k_obj Wh t_a0 (by decide) ?_
        refine k_cWW (kX11_nextAfter Wh t_a0 tx67_) (by first | decide | exact fun _ q => q) (fun x79_ h10_ fh10_ qx79_ => ?_)
        have Wh10_ := fh10_.1
        have e11_ := kg_fr (fh10_.2.2.2 _ (by rw [t_a0.1, t_a0.2]; first | decide | simp)) e2_
        obtain ⟨x79_s, rfl, tx79_s⟩ := qx79_
        refine k_kR e11_ ?_
        refine k_gI Wh10_ tx11_ (by decide) rfl (fun x1012_ e13_ x1012_l x1012_u => ?_)
        refine k_if (fun c14_ => ?_) (fun c14_ => ?_)
        · skip
          refine k_obj Wh10_ tx79_s (by decide) ?_
          refine k_cP (kX10_isMissing Wh10_ tx79_s) (fun x1115_ qx1115_ => ?_)
          refine k_if (fun c16_ => ?_) (fun c16_ => ?_)
          · skip
            unfold fX11_tellNexts_65
            refine k_gR (r' := 0) Wh10_ t_a0 (by decide) rfl rfl (fun x117_ e18_ tx117_ => ?_)
            refine k_gR (r' := 0) Wh10_ t_a0 (by decide) rfl rfl (fun x219_ e20_ tx219_ => ?_)
            refine k_obj Wh10_ tx117_ (by decide) ?_
            refine k_cWW (kX6_tell Wh10_ tx117_ tx219_ tx79_s) (by first | decide | exact fun _ q => q) (fun v21_ h22_ fh22_ qv21_ => ?_)
            have Wh22_ := fh22_.1
            first | refine k_add (by omega) (by omega) (fun x423_ x423_q => ?_) | refine k_let (fun x423_ => ?_)
            exact ih _ _ _ Wh22_ t_a0 (by first | omega | assumption | decide) (by first | omega | assumption | decide) (by omega)
          · skip
            refine k_gR (r' := 0) Wh10_ t_a0 (by decide) rfl rfl (fun x1324_ e25_ tx1324_ => ?_)
            refine k_obj Wh10_ tx1324_ (by decide) ?_
            refine k_cWW (kX6_fail Wh10_ tx1324_) (by first | decide | exact fun _ q => q) (fun v26_ h27_ fh27_ qv26_ => ?_)
            have Wh27_ := fh27_.1
            exact k_rW Wh27_ trivial
        · skip
          unfold fX11_tellNexts_65
          refine k_gR (r' := 0) Wh10_ t_a0 (by decide) rfl rfl (fun x128_ e29_ tx128_ => ?_)
          refine k_gR (r' := 0) Wh10_ t_a0 (by decide) rfl rfl (fun x230_ e31_ tx230_ => ?_)
          refine k_obj Wh10_ tx128_ (by decide) ?_
          refine k_cWW (kX6_tell Wh10_ tx128_ tx230_ tx79_s) (by first | decide | exact fun _ q => q) (fun v32_ h33_ fh33_ qv32_ => ?_)
          have Wh33_ := fh33_.1
          first | refine k_add (by omega) (by omega) (fun x434_ x434_q => ?_) | refine k_let (fun x434_ => ?_)
          exact ih _ _ _ Wh33_ t_a0 (by first | omega | assumption | decide) (by first | omega | assumption | decide) (by omega)

-- fX11_tellNexts
set_option maxHeartbeats 4000000 in
theorem kX11_tellNexts {G : GT} {a0 : Nat} {h : sm_H} (Wh : Wf G h) (t_a0 : tG G a0 12 0) : kJ (RW [(1, 0), (5, 0), (7, 0), (21, 0)] G h (fun (r : Unit) (_ : sm_H) => True)) (fX11_tellNexts a0 h) := by
  have L0 : (0 : Int32).toInt = 0 := rfl
  have L1 : (1 : Int32).toInt = 1 := rfl
  unfold fX11_tellNexts
  exact k_WW (kX11_tellNexts_2 _ _ _ _ Wh t_a0 (by first | omega | assumption | decide) (by first | omega | assumption | decide) (by simp only [sm_fuel_eq]; omega)) (by first | decide | exact fun _ q => q) (fun _ _ _ q => q)

-- fX11_tellMany_57
set_option maxHeartbeats 4000000 in
theorem kX11_tellMany_57 {G : GT} : ∀ (n : Nat) (a0 : Nat) (a1 : Int32) (a2 : Int32) (a3 : Int64) (a5 : Int32) (a6 : Int32) (h : sm_H), Wf G h → tG G a0 12 0 → 0 ≤ a6.toInt → a6.toInt ≤ 1200 → 1200 - a6.toInt < (n : Int) → kJ (RW [(1, 0), (5, 0), (7, 0), (21, 0)] G h (fun (r : Unit) (_ : sm_H) => True)) (fX11_tellMany_57 n a0 a1 a2 a3 a5 a6 h) := by
  have L0 : (0 : Int32).toInt = 0 := rfl
  have L1 : (1 : Int32).toInt = 1 := rfl
  have L40 : (40 : Int32).toInt = 40 := rfl
  intro n
  induction n with
  | zero => intro a0 a1 a2 a3 a5 a6 h Wh t_a0 p0_ p1_ m_; exfalso; omega
  | succ n ih =>
    intro a0 a1 a2 a3 a5 a6 h Wh t_a0 p0_ p1_ m_
    unfold fX11_tellMany_57
    refine k_l4 (fun c1_ => ?_) (fun c1_ => ?_)
    · skip
      exact k_rW Wh trivial
    · skip
      refine k_le (fun c2_ => ?_) (fun c2_ => ?_)
      · skip
        exact k_rW Wh trivial
      · skip
        refine k_gR (r' := 0) Wh t_a0 (by decide) rfl rfl (fun x13_ e4_ tx13_ => ?_)
        refine k_gI Wh tx13_ (by decide) rfl (fun x25_ e6_ x25_l x25_u => ?_)
        refine k_le (fun c7_ => ?_) (fun c7_ => ?_)
        · skip
          refine k_gR (r' := 0) Wh t_a0 (by decide) rfl rfl (fun x38_ e9_ tx38_ => ?_)
          refine k_obj Wh tx38_ (by decide) ?_
          refine k_cP (kX6_pairAt Wh tx38_) (fun x410_ qx410_ => ?_)
          unfold fX11_tellMany_107
          rcases x410_ with _ | x410_s
          · rw [if_pos rfl]
            exact k_rW Wh trivial
          · rw [if_neg (by simp)]
            have tx410_s := qx410_ x410_s rfl
            refine k_gR (r' := 0) Wh tx410_s (by decide) rfl rfl (fun x111_ e12_ tx111_ => ?_)
            refine k_obj Wh t_a0 (by decide) ?_
            refine k_cWW (kX11_nextAfter Wh t_a0 tx111_) (by first | decide | exact fun _ q => q) (fun x213_ h14_ fh14_ qx213_ => ?_)
            have Wh14_ := fh14_.1
            have e15_ := kg_fr (fh14_.2.2.2 _ (by rw [t_a0.1, t_a0.2]; first | decide | simp)) e4_
            have e16_ := kg_fr (fh14_.2.2.2 _ (by rw [t_a0.1, t_a0.2]; first | decide | simp)) e9_
            obtain ⟨x213_s, rfl, tx213_s⟩ := qx213_
            refine k_kR e16_ ?_
            refine k_kR e15_ ?_
            refine k_gR (r' := 0) Wh14_ t_a0 (by decide) rfl rfl (fun x617_ e18_ tx617_ => ?_)
            refine k_obj Wh14_ tx38_ (by decide) ?_
            refine k_cP (kX6_sizeWith Wh14_ tx38_ tx13_ tx617_ tx213_s) (fun x719_ qx719_ => ?_)
            refine k_gI Wh14_ t_a0 (by decide) rfl (fun x920_ e21_ x920_l x920_u => ?_)
            refine k_le (fun c22_ => ?_) (fun c22_ => ?_)
            · skip
              refine k_kR e16_ ?_
              refine k_kR e18_ ?_
              refine k_obj Wh14_ tx38_ (by decide) ?_
              refine k_cWW (kX6_tell Wh14_ tx38_ tx617_ tx213_s) (by first | decide | exact fun _ q => q) (fun v23_ h24_ fh24_ qv23_ => ?_)
              have Wh24_ := fh24_.1
              refine k_obj Wh24_ tx213_s (by decide) ?_
              refine k_cP (kX10_isMissing Wh24_ tx213_s) (fun x1325_ qx1325_ => ?_)
              refine k_if (fun c26_ => ?_) (fun c26_ => ?_)
              · skip
                unfold fX11_tellMany_180
                refine k_lt (fun c27_ => ?_) (fun c27_ => ?_)
                · skip
                  unfold fX11_tellMany_208
                  rw [if_pos (by decide)]
                  first | refine k_add (by omega) (by omega) (fun x128_ x128_q => ?_) | refine k_let (fun x128_ => ?_)
                  exact ih _ _ _ _ _ _ _ Wh24_ t_a0 (by first | omega | assumption | decide) (by first | omega | assumption | decide) (by omega)
                · skip
                  refine k_le (fun c29_ => ?_) (fun c29_ => ?_)
                  · skip
                    unfold fX11_tellMany_208
                    rw [if_pos (by decide)]
                    first | refine k_add (by omega) (by omega) (fun x130_ x130_q => ?_) | refine k_let (fun x130_ => ?_)
                    exact ih _ _ _ _ _ _ _ Wh24_ t_a0 (by first | omega | assumption | decide) (by first | omega | assumption | decide) (by omega)
                  · skip
                    rw [if_neg (fun q => by subst q; omega)]
                    refine k_if (fun c31_ => ?_) (fun c31_ => ?_)
                    · skip
                      unfold fX11_tellMany_208
                      rw [if_neg (by decide)]
                      refine k_lt (fun c32_ => ?_) (fun c32_ => ?_)
                      · skip
                        first | refine k_add (by omega) (by omega) (fun x233_ x233_q => ?_) | refine k_let (fun x233_ => ?_)
                        exact ih _ _ _ _ _ _ _ Wh24_ t_a0 (by first | omega | assumption | decide) (by first | omega | assumption | decide) (by omega)
                      · skip
                        exact k_rW Wh24_ trivial
                    · skip
                      unfold fX11_tellMany_208
                      rw [if_pos (by decide)]
                      first | refine k_add (by omega) (by omega) (fun x134_ x134_q => ?_) | refine k_let (fun x134_ => ?_)
                      exact ih _ _ _ _ _ _ _ Wh24_ t_a0 (by first | omega | assumption | decide) (by first | omega | assumption | decide) (by omega)
              · skip
                unfold fX11_tellMany_180
                refine k_lt (fun c35_ => ?_) (fun c35_ => ?_)
                · skip
                  unfold fX11_tellMany_208
                  rw [if_pos (by decide)]
                  first | refine k_add (by omega) (by omega) (fun x136_ x136_q => ?_) | refine k_let (fun x136_ => ?_)
                  exact ih _ _ _ _ _ _ _ Wh24_ t_a0 (by first | omega | assumption | decide) (by first | omega | assumption | decide) (by omega)
                · skip
                  refine k_le (fun c37_ => ?_) (fun c37_ => ?_)
                  · skip
                    unfold fX11_tellMany_208
                    rw [if_pos (by decide)]
                    first | refine k_add (by omega) (by omega) (fun x138_ x138_q => ?_) | refine k_let (fun x138_ => ?_)
                    exact ih _ _ _ _ _ _ _ Wh24_ t_a0 (by first | omega | assumption | decide) (by first | omega | assumption | decide) (by omega)
                  · skip
                    rw [if_neg (fun q => by subst q; omega)]
                    refine k_if (fun c39_ => ?_) (fun c39_ => ?_)
                    · skip
                      unfold fX11_tellMany_208
                      rw [if_neg (by decide)]
                      refine k_lt (fun c40_ => ?_) (fun c40_ => ?_)
                      · skip
                        first | refine k_add (by omega) (by omega) (fun x241_ x241_q => ?_) | refine k_let (fun x241_ => ?_)
                        exact ih _ _ _ _ _ _ _ Wh24_ t_a0 (by first | omega | assumption | decide) (by first | omega | assumption | decide) (by omega)
                      · skip
                        exact k_rW Wh24_ trivial
                    · skip
                      unfold fX11_tellMany_208
                      rw [if_pos (by decide)]
                      first | refine k_add (by omega) (by omega) (fun x142_ x142_q => ?_) | refine k_let (fun x142_ => ?_)
                      exact ih _ _ _ _ _ _ _ Wh24_ t_a0 (by first | omega | assumption | decide) (by first | omega | assumption | decide) (by omega)
            · skip
              exact k_rW Wh14_ trivial
        · skip
          refine k_kR e4_ ?_
          refine k_obj Wh tx13_ (by decide) ?_
          refine k_cP (kX3_pairAt Wh tx13_) (fun x843_ qx843_ => ?_)
          unfold fX11_tellMany_107
          rcases x843_ with _ | x843_s
          · rw [if_pos rfl]
            exact k_rW Wh trivial
          · rw [if_neg (by simp)]
            have tx843_s := qx843_ x843_s rfl
            refine k_gR (r' := 0) Wh tx843_s (by decide) rfl rfl (fun x144_ e45_ tx144_ => ?_)
            refine k_obj Wh t_a0 (by decide) ?_
            refine k_cWW (kX11_nextAfter Wh t_a0 tx144_) (by first | decide | exact fun _ q => q) (fun x246_ h47_ fh47_ qx246_ => ?_)
            have Wh47_ := fh47_.1
            have e48_ := kg_fr (fh47_.2.2.2 _ (by rw [t_a0.1, t_a0.2]; first | decide | simp)) e4_
            obtain ⟨x246_s, rfl, tx246_s⟩ := qx246_
            refine k_gR (r' := 0) Wh47_ t_a0 (by decide) rfl rfl (fun x449_ e50_ tx449_ => ?_)
            refine k_kR e48_ ?_
            refine k_gR (r' := 0) Wh47_ t_a0 (by decide) rfl rfl (fun x651_ e52_ tx651_ => ?_)
            refine k_obj Wh47_ tx449_ (by decide) ?_
            refine k_cP (kX6_sizeWith Wh47_ tx449_ tx13_ tx651_ tx246_s) (fun x753_ qx753_ => ?_)
            refine k_gI Wh47_ t_a0 (by decide) rfl (fun x954_ e55_ x954_l x954_u => ?_)
            refine k_le (fun c56_ => ?_) (fun c56_ => ?_)
            · skip
              refine k_kR e50_ ?_
              refine k_kR e52_ ?_
              refine k_obj Wh47_ tx449_ (by decide) ?_
              refine k_cWW (kX6_tell Wh47_ tx449_ tx651_ tx246_s) (by first | decide | exact fun _ q => q) (fun v57_ h58_ fh58_ qv57_ => ?_)
              have Wh58_ := fh58_.1
              refine k_obj Wh58_ tx246_s (by decide) ?_
              refine k_cP (kX10_isMissing Wh58_ tx246_s) (fun x1359_ qx1359_ => ?_)
              refine k_if (fun c60_ => ?_) (fun c60_ => ?_)
              · skip
                unfold fX11_tellMany_180
                refine k_lt (fun c61_ => ?_) (fun c61_ => ?_)
                · skip
                  unfold fX11_tellMany_208
                  rw [if_pos (by decide)]
                  first | refine k_add (by omega) (by omega) (fun x162_ x162_q => ?_) | refine k_let (fun x162_ => ?_)
                  exact ih _ _ _ _ _ _ _ Wh58_ t_a0 (by first | omega | assumption | decide) (by first | omega | assumption | decide) (by omega)
                · skip
                  refine k_le (fun c63_ => ?_) (fun c63_ => ?_)
                  · skip
                    unfold fX11_tellMany_208
                    rw [if_pos (by decide)]
                    first | refine k_add (by omega) (by omega) (fun x164_ x164_q => ?_) | refine k_let (fun x164_ => ?_)
                    exact ih _ _ _ _ _ _ _ Wh58_ t_a0 (by first | omega | assumption | decide) (by first | omega | assumption | decide) (by omega)
                  · skip
                    rw [if_neg (fun q => by subst q; omega)]
                    refine k_if (fun c65_ => ?_) (fun c65_ => ?_)
                    · skip
                      unfold fX11_tellMany_208
                      rw [if_neg (by decide)]
                      refine k_lt (fun c66_ => ?_) (fun c66_ => ?_)
                      · skip
                        first | refine k_add (by omega) (by omega) (fun x267_ x267_q => ?_) | refine k_let (fun x267_ => ?_)
                        exact ih _ _ _ _ _ _ _ Wh58_ t_a0 (by first | omega | assumption | decide) (by first | omega | assumption | decide) (by omega)
                      · skip
                        exact k_rW Wh58_ trivial
                    · skip
                      unfold fX11_tellMany_208
                      rw [if_pos (by decide)]
                      first | refine k_add (by omega) (by omega) (fun x168_ x168_q => ?_) | refine k_let (fun x168_ => ?_)
                      exact ih _ _ _ _ _ _ _ Wh58_ t_a0 (by first | omega | assumption | decide) (by first | omega | assumption | decide) (by omega)
              · skip
                unfold fX11_tellMany_180
                refine k_lt (fun c69_ => ?_) (fun c69_ => ?_)
                · skip
                  unfold fX11_tellMany_208
                  rw [if_pos (by decide)]
                  first | refine k_add (by omega) (by omega) (fun x170_ x170_q => ?_) | refine k_let (fun x170_ => ?_)
                  exact ih _ _ _ _ _ _ _ Wh58_ t_a0 (by first | omega | assumption | decide) (by first | omega | assumption | decide) (by omega)
                · skip
                  refine k_le (fun c71_ => ?_) (fun c71_ => ?_)
                  · skip
                    unfold fX11_tellMany_208
                    rw [if_pos (by decide)]
                    first | refine k_add (by omega) (by omega) (fun x172_ x172_q => ?_) | refine k_let (fun x172_ => ?_)
                    exact ih _ _ _ _ _ _ _ Wh58_ t_a0 (by first | omega | assumption | decide) (by first | omega | assumption | decide) (by omega)
                  · skip
                    rw [if_neg (fun q => by subst q; omega)]
                    refine k_if (fun c73_ => ?_) (fun c73_ => ?_)
                    · skip
                      unfold fX11_tellMany_208
                      rw [if_neg (by decide)]
                      refine k_lt (fun c74_ => ?_) (fun c74_ => ?_)
                      · skip
                        first | refine k_add (by omega) (by omega) (fun x275_ x275_q => ?_) | refine k_let (fun x275_ => ?_)
                        exact ih _ _ _ _ _ _ _ Wh58_ t_a0 (by first | omega | assumption | decide) (by first | omega | assumption | decide) (by omega)
                      · skip
                        exact k_rW Wh58_ trivial
                    · skip
                      unfold fX11_tellMany_208
                      rw [if_pos (by decide)]
                      first | refine k_add (by omega) (by omega) (fun x176_ x176_q => ?_) | refine k_let (fun x176_ => ?_)
                      exact ih _ _ _ _ _ _ _ Wh58_ t_a0 (by first | omega | assumption | decide) (by first | omega | assumption | decide) (by omega)
            · skip
              exact k_rW Wh47_ trivial
