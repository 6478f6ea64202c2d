-- fX11_nextOf
set_option maxHeartbeats 4000000 in
theorem kX11_nextOf {G : GT} {r_a2 : Nat} {a0 : Nat} {a1 : Nat} {a2 : Nat} {h : sm_H} (Wh : Wf G h) (t_a0 : tG G a0 12 0) (t_a1 : tG G a1 9 0) (t_a2 : tG G a2 1 r_a2) : kJ (RW [(1, 0), (21, 0)] G h (fun (r : Option Nat) (_ : sm_H) => tN G r 11 0)) (fX11_nextOf a0 (some a1) (some a2) h) := by
  have L0 : (0 : Int32).toInt = 0 := rfl
  have L1 : (1 : Int32).toInt = 1 := rfl
  unfold fX11_nextOf
  refine k_gR (r' := 0) Wh t_a0 (by decide) rfl rfl (fun x11_ e2_ tx11_ => ?_)
  refine k_gN (r' := 0) Wh tx11_ (by decide) rfl rfl (fun x23_ e4_ tx23_ => ?_)
  refine k_obj Wh t_a1 (by decide) ?_
  refine k_cP (kX8_passedBy Wh t_a1 t_a2) (fun x35_ qx35_ => ?_)
  refine k_obj Wh t_a1 (by decide) ?_
  refine k_cP (kX8_indexAbove Wh t_a1) (fun x56_ qx56_ => ?_)
  exact k_WW (kX11_nextOf_22 _ _ _ _ _ _ _ Wh t_a0 t_a1 tx23_ (by first | omega | assumption | decide) (by first | omega | assumption | decide) (by simp only [sm_fuel_eq]; omega)) (by first | decide | exact fun _ q => q) (fun _ _ _ q => q)

-- fX11_nextAfter_2
set_option maxHeartbeats 4000000 in
theorem kX11_nextAfter_2 {G : GT} {r_a1 : Nat} : ∀ (n : Nat) (a0 : Nat) (a1 : Nat) (a2 : Int32) (h : sm_H), Wf G h → tG G a0 12 0 → tG G a1 1 r_a1 → 0 ≤ a2.toInt → a2.toInt ≤ 1200 → 1200 - a2.toInt < (n : Int) → kJ (RW [(1, 0), (21, 0)] G h (fun (r : Option Nat) (_ : sm_H) => ∃ b, r = some b ∧ tG G b 11 0)) (fX11_nextAfter_2 n a0 (some a1) a2 h) := by
  have L0 : (0 : Int32).toInt = 0 := rfl
  have L1 : (1 : Int32).toInt = 1 := rfl
  intro n
  induction n with
  | zero => intro a0 a1 a2 h Wh t_a0 t_a1 p0_ p1_ m_; exfalso; omega
  | succ n ih =>
    intro a0 a1 a2 h Wh t_a0 t_a1 p0_ p1_ m_
    unfold fX11_nextAfter_2
    refine k_gR (r' := 0) Wh t_a0 (by decide) rfl rfl (fun x11_ e2_ tx11_ => ?_)
    refine k_obj Wh tx11_ (by decide) ?_
    refine k_cP (kX9_thingCount Wh tx11_) (fun x23_ qx23_ => ?_)
    have x23_l := qx23_.1
    have x23_u := qx23_.2
    refine k_le (fun c4_ => ?_) (fun c4_ => ?_)
    · skip
      refine k_gR (r' := 0) Wh t_a0 (by decide) rfl rfl (fun x45_ e6_ tx45_ => ?_)
      refine k_obj Wh tx45_ (by decide) ?_
      refine k_cWW (kX0_copy Wh tx45_ t_a1) (by first | decide | exact fun _ q => q) (fun v7_ h8_ fh8_ qv7_ => ?_)
      have Wh8_ := fh8_.1
      refine k_gR (r' := 0) Wh8_ t_a0 (by decide) rfl rfl (fun x69_ e10_ tx69_ => ?_)
      exact k_rW Wh8_ ⟨_, rfl, tx69_⟩
    · skip
      refine k_kR e2_ ?_
      refine k_obj Wh tx11_ (by decide) ?_
      refine k_cP (kX9_thingInOrder Wh tx11_) (fun x911_ qx911_ => ?_)
      rcases x911_ with _ | x911_s
      · rw [if_pos rfl]
        unfold fX11_nextAfter_43
        rw [if_pos rfl]
        first | refine k_add (by omega) (by omega) (fun x112_ x112_q => ?_) | refine k_let (fun x112_ => ?_)
        exact ih _ _ _ _ Wh t_a0 t_a1 (by first | omega | assumption | decide) (by first | omega | assumption | decide) (by omega)
      · rw [if_neg (by simp)]
        have tx911_s := qx911_ x911_s rfl
        refine k_gI Wh tx911_s (by decide) rfl (fun x1113_ e14_ x1113_l x1113_u => ?_)
        refine k_if (fun c15_ => ?_) (fun c15_ => ?_)
        · skip
          unfold fX11_nextAfter_43
          rw [if_pos rfl]
          first | refine k_add (by omega) (by omega) (fun x116_ x116_q => ?_) | refine k_let (fun x116_ => ?_)
          exact ih _ _ _ _ Wh t_a0 t_a1 (by first | omega | assumption | decide) (by first | omega | assumption | decide) (by omega)
        · skip
          refine k_obj Wh t_a0 (by decide) ?_
          refine k_cWW (kX11_nextOf Wh t_a0 tx911_s t_a1) (by first | decide | exact fun _ q => q) (fun x1217_ h18_ fh18_ qx1217_ => ?_)
          have Wh18_ := fh18_.1
          unfold fX11_nextAfter_43
          rcases x1217_ with _ | x1217_s
          · rw [if_pos rfl]
            first | refine k_add (by omega) (by omega) (fun x119_ x119_q => ?_) | refine k_let (fun x119_ => ?_)
            exact ih _ _ _ _ Wh18_ t_a0 t_a1 (by first | omega | assumption | decide) (by first | omega | assumption | decide) (by omega)
          · rw [if_neg (by simp)]
            have tx1217_s := qx1217_ x1217_s rfl
            exact k_rW Wh18_ ⟨_, rfl, tx1217_s⟩

-- fX11_nextAfter
set_option maxHeartbeats 4000000 in
theorem kX11_nextAfter {G : GT} {r_a1 : Nat} {a0 : Nat} {a1 : Nat} {h : sm_H} (Wh : Wf G h) (t_a0 : tG G a0 12 0) (t_a1 : tG G a1 1 r_a1) : kJ (RW [(1, 0), (21, 0)] G h (fun (r : Option Nat) (_ : sm_H) => ∃ b, r = some b ∧ tG G b 11 0)) (fX11_nextAfter a0 (some a1) h) := by
  have L0 : (0 : Int32).toInt = 0 := rfl
  have L1 : (1 : Int32).toInt = 1 := rfl
  unfold fX11_nextAfter
  exact k_WW (kX11_nextAfter_2 _ _ _ _ _ Wh t_a0 t_a1 (by first | omega | assumption | decide) (by first | omega | assumption | decide) (by simp only [sm_fuel_eq]; omega)) (by first | decide | exact fun _ q => q) (fun _ _ _ q => q)

-- fX11_tellNexts_2
set_option maxHeartbeats 4000000 in
theorem kX11_tellNexts_2 {G : GT} : ∀ (n : Nat) (a0 : Nat) (a1 : Int32) (h : sm_H), Wf G h → tG G a0 12 0 → 0 ≤ a1.toInt → a1.toInt ≤ 1200 → 1200 - a1.toInt < (n : Int) → kJ (RW [(1, 0), (5, 0), (7, 0), (21, 0)] G h (fun (r : Unit) (_ : sm_H) => True)) (fX11_tellNexts_2 n a0 a1 h) := by
  have L0 : (0 : Int32).toInt = 0 := rfl
  have L1 : (1 : Int32).toInt = 1 := rfl
  have L2 : (2 : Int32).toInt = 2 := rfl
  intro n
  induction n with
  | zero => intro a0 a1 h Wh t_a0 p0_ p1_ m_; exfalso; omega
  | succ n ih =>
    intro a0 a1 h Wh t_a0 p0_ p1_ m_
    unfold fX11_tellNexts_2
    refine k_gR (r' := 0) Wh t_a0 (by decide) rfl rfl (fun x11_ e2_ tx11_ => ?_)
    refine k_gI Wh tx11_ (by decide) rfl (fun x23_ e4_ x23_l x23_u => ?_)
    refine k_le (fun c5_ => ?_) (fun c5_ => ?_)
    · skip
      exact k_rW Wh trivial
    · skip
      refine k_kR e2_ ?_
      refine k_obj Wh tx11_ (by decide) ?_
      refine k_cP (kX3_pairAt Wh tx11_) (fun x46_ qx46_ => ?_)
      rcases x46_ with _ | x46_s
      · rw [if_pos rfl]
        exact k_rW Wh trivial
      · rw [if_neg (by simp)]
        have tx46_s := qx46_ x46_s rfl
        refine k_gR (r' := 0) Wh tx46_s (by decide) rfl rfl (fun x67_ e8_ tx67_ => ?_)
        refine k_obj Wh t_a0 (by decide) ?_
        refine k_cWW (kX11_nextAfter Wh t_a0 tx67_) (by first | decide | exact fun _ q => q) (fun x79_ h10_ fh10_ qx79_ => ?_)
        have Wh10_ := fh10_.1
        have e11_ := kg_fr (fh10_.2.2.2 _ (by rw [t_a0.1, t_a0.2]; first | decide | simp)) e2_
        obtain ⟨x79_s, rfl, tx79_s⟩ := qx79_
        refine k_kR e11_ ?_
        refine k_gI Wh10_ tx11_ (by decide) rfl (fun x1012_ e13_ x1012_l x1012_u => ?_)
        refine k_if (fun c14_ => ?_) (fun c14_ => ?_)
        · skip
          refine k_gR (r' := 0) Wh10_ t_a0 (by decide) rfl rfl (fun x1115_ e16_ tx1115_ => ?_)
          refine k_if (fun c17_ => ?_) (fun c17_ => ?_)
          · skip
            refine k_gR (r' := 0) Wh10_ t_a0 (by decide) rfl rfl (fun x1218_ e19_ tx1218_ => ?_)
            refine k_obj Wh10_ tx1218_ (by decide) ?_
            refine k_cWW (kX6_fail Wh10_ tx1218_) (by first | decide | exact fun _ q => q) (fun v20_ h21_ fh21_ qv20_ => ?_)
            have Wh21_ := fh21_.1
            exact k_rW Wh21_ trivial
          · skip
            unfold fX11_tellNexts_66
            refine k_gR (r' := 0) Wh10_ t_a0 (by decide) rfl rfl (fun x122_ e23_ tx122_ => ?_)
            refine k_gR (r' := 0) Wh10_ t_a0 (by decide) rfl rfl (fun x224_ e25_ tx224_ => ?_)
            refine k_obj Wh10_ tx122_ (by decide) ?_
            refine k_cWW (kX6_tell Wh10_ tx122_ tx224_ tx79_s) (by first | decide | exact fun _ q => q) (fun v26_ h27_ fh27_ qv26_ => ?_)
            have Wh27_ := fh27_.1
            first | refine k_add (by omega) (by omega) (fun x428_ x428_q => ?_) | refine k_let (fun x428_ => ?_)
            exact ih _ _ _ Wh27_ t_a0 (by first | omega | assumption | decide) (by first | omega | assumption | decide) (by omega)
        · skip
          unfold fX11_tellNexts_66
          refine k_gR (r' := 0) Wh10_ t_a0 (by decide) rfl rfl (fun x129_ e30_ tx129_ => ?_)
          refine k_gR (r' := 0) Wh10_ t_a0 (by decide) rfl rfl (fun x231_ e32_ tx231_ => ?_)
          refine k_obj Wh10_ tx129_ (by decide) ?_
          refine k_cWW (kX6_tell Wh10_ tx129_ tx231_ tx79_s) (by first | decide | exact fun _ q => q) (fun v33_ h34_ fh34_ qv33_ => ?_)
          have Wh34_ := fh34_.1
          first | refine k_add (by omega) (by omega) (fun x435_ x435_q => ?_) | refine k_let (fun x435_ => ?_)
          exact ih _ _ _ Wh34_ t_a0 (by first | omega | assumption | decide) (by first | omega | assumption | decide) (by omega)

-- fX11_tellNexts
set_option maxHeartbeats 4000000 in
theorem kX11_tellNexts {G : GT} {a0 : Nat} {h : sm_H} (Wh : Wf G h) (t_a0 : tG G a0 12 0) : kJ (RW [(1, 0), (5, 0), (7, 0), (21, 0)] G h (fun (r : Unit) (_ : sm_H) => True)) (fX11_tellNexts a0 h) := by
  have L0 : (0 : Int32).toInt = 0 := rfl
  have L1 : (1 : Int32).toInt = 1 := rfl
  unfold fX11_tellNexts
  exact k_WW (kX11_tellNexts_2 _ _ _ _ Wh t_a0 (by first | omega | assumption | decide) (by first | omega | assumption | decide) (by simp only [sm_fuel_eq]; omega)) (by first | decide | exact fun _ q => q) (fun _ _ _ q => q)

-- fX11_tellMany_57
set_option maxHeartbeats 4000000 in
theorem kX11_tellMany_57 {G : GT} : ∀ (n : Nat) (a0 : Nat) (a1 : Int32) (a2 : Int32) (a3 : Int64) (a5 : Int32) (a6 : Int32) (h : sm_H), Wf G h → tG G a0 12 0 → 0 ≤ a6.toInt → a6.toInt ≤ 1200 → 1200 - a6.toInt < (n : Int) → kJ (RW [(1, 0), (5, 0), (7, 0), (21, 0)] G h (fun (r : Unit) (_ : sm_H) => True)) (fX11_tellMany_57 n a0 a1 a2 a3 a5 a6 h) := by
  have L0 : (0 : Int32).toInt = 0 := rfl
  have L1 : (1 : Int32).toInt = 1 := rfl
  have L40 : (40 : Int32).toInt = 40 := rfl
  intro n
  induction n with
  | zero => intro a0 a1 a2 a3 a5 a6 h Wh t_a0 p0_ p1_ m_; exfalso; omega
  | succ n ih =>
    intro a0 a1 a2 a3 a5 a6 h Wh t_a0 p0_ p1_ m_
    unfold fX11_tellMany_57
    refine k_l4 (fun c1_ => ?_) (fun c1_ => ?_)
    · skip
      exact k_rW Wh trivial
    · skip
      refine k_le (fun c2_ => ?_) (fun c2_ => ?_)
      · skip
        exact k_rW Wh trivial
      · skip
        refine k_gR (r' := 0) Wh t_a0 (by decide) rfl rfl (fun x13_ e4_ tx13_ => ?_)
        refine k_gI Wh tx13_ (by decide) rfl (fun x25_ e6_ x25_l x25_u => ?_)
        refine k_le (fun c7_ => ?_) (fun c7_ => ?_)
        · skip
          refine k_gR (r' := 0) Wh t_a0 (by decide) rfl rfl (fun x38_ e9_ tx38_ => ?_)
          refine k_obj Wh tx38_ (by decide) ?_
          refine k_cP (kX6_pairAt Wh tx38_) (fun x410_ qx410_ => ?_)
          unfold fX11_tellMany_107
          rcases x410_ with _ | x410_s
          · rw [if_pos rfl]
            exact k_rW Wh trivial
          · rw [if_neg (by simp)]
            have tx410_s := qx410_ x410_s rfl
            refine k_gR (r' := 0) Wh tx410_s (by decide) rfl rfl (fun x111_ e12_ tx111_ => ?_)
            refine k_obj Wh t_a0 (by decide) ?_
            refine k_cWW (kX11_nextAfter Wh t_a0 tx111_) (by first | decide | exact fun _ q => q) (fun x213_ h14_ fh14_ qx213_ => ?_)
            have Wh14_ := fh14_.1
            have e15_ := kg_fr (fh14_.2.2.2 _ (by rw [t_a0.1, t_a0.2]; first | decide | simp)) e4_
            have e16_ := kg_fr (fh14_.2.2.2 _ (by rw [t_a0.1, t_a0.2]; first | decide | simp)) e9_
            obtain ⟨x213_s, rfl, tx213_s⟩ := qx213_
            refine k_kR e16_ ?_
            refine k_kR e15_ ?_
            refine k_gR (r' := 0) Wh14_ t_a0 (by decide) rfl rfl (fun x617_ e18_ tx617_ => ?_)
            refine k_obj Wh14_ tx38_ (by decide) ?_
            refine k_cP (kX6_sizeWith Wh14_ tx38_ tx13_ tx617_ tx213_s) (fun x719_ qx719_ => ?_)
            refine k_gI Wh14_ t_a0 (by decide) rfl (fun x920_ e21_ x920_l x920_u => ?_)
            refine k_le (fun c22_ => ?_) (fun c22_ => ?_)
            · skip
              refine k_kR e16_ ?_
              refine k_kR e18_ ?_
              refine k_obj Wh14_ tx38_ (by decide) ?_
              refine k_cWW (kX6_tell Wh14_ tx38_ tx617_ tx213_s) (by first | decide | exact fun _ q => q) (fun v23_ h24_ fh24_ qv23_ => ?_)
              have Wh24_ := fh24_.1
              refine k_gR (r' := 0) Wh24_ t_a0 (by decide) rfl rfl (fun x1325_ e26_ tx1325_ => ?_)
              refine k_if (fun c27_ => ?_) (fun c27_ => ?_)
              · skip
                unfold fX11_tellMany_181
                refine k_lt (fun c28_ => ?_) (fun c28_ => ?_)
                · skip
                  unfold fX11_tellMany_209
                  rw [if_pos (by decide)]
                  first | refine k_add (by omega) (by omega) (fun x129_ x129_q => ?_) | refine k_let (fun x129_ => ?_)
                  exact ih _ _ _ _ _ _ _ Wh24_ t_a0 (by first | omega | assumption | decide) (by first | omega | assumption | decide) (by omega)
                · skip
                  refine k_le (fun c30_ => ?_) (fun c30_ => ?_)
                  · skip
                    unfold fX11_tellMany_209
                    rw [if_pos (by decide)]
                    first | refine k_add (by omega) (by omega) (fun x131_ x131_q => ?_) | refine k_let (fun x131_ => ?_)
                    exact ih _ _ _ _ _ _ _ Wh24_ t_a0 (by first | omega | assumption | decide) (by first | omega | assumption | decide) (by omega)
                  · skip
                    rw [if_neg (fun q => by subst q; omega)]
                    refine k_if (fun c32_ => ?_) (fun c32_ => ?_)
                    · skip
                      unfold fX11_tellMany_209
                      rw [if_neg (by decide)]
                      refine k_lt (fun c33_ => ?_) (fun c33_ => ?_)
                      · skip
                        first | refine k_add (by omega) (by omega) (fun x234_ x234_q => ?_) | refine k_let (fun x234_ => ?_)
                        exact ih _ _ _ _ _ _ _ Wh24_ t_a0 (by first | omega | assumption | decide) (by first | omega | assumption | decide) (by omega)
                      · skip
                        exact k_rW Wh24_ trivial
                    · skip
                      unfold fX11_tellMany_209
                      rw [if_pos (by decide)]
                      first | refine k_add (by omega) (by omega) (fun x135_ x135_q => ?_) | refine k_let (fun x135_ => ?_)
                      exact ih _ _ _ _ _ _ _ Wh24_ t_a0 (by first | omega | assumption | decide) (by first | omega | assumption | decide) (by omega)
              · skip
                unfold fX11_tellMany_181
                refine k_lt (fun c36_ => ?_) (fun c36_ => ?_)
                · skip
                  unfold fX11_tellMany_209
                  rw [if_pos (by decide)]
                  first | refine k_add (by omega) (by omega) (fun x137_ x137_q => ?_) | refine k_let (fun x137_ => ?_)
                  exact ih _ _ _ _ _ _ _ Wh24_ t_a0 (by first | omega | assumption | decide) (by first | omega | assumption | decide) (by omega)
                · skip
                  refine k_le (fun c38_ => ?_) (fun c38_ => ?_)
                  · skip
                    unfold fX11_tellMany_209
                    rw [if_pos (by decide)]
                    first | refine k_add (by omega) (by omega) (fun x139_ x139_q => ?_) | refine k_let (fun x139_ => ?_)
                    exact ih _ _ _ _ _ _ _ Wh24_ t_a0 (by first | omega | assumption | decide) (by first | omega | assumption | decide) (by omega)
                  · skip
                    rw [if_neg (fun q => by subst q; omega)]
                    refine k_if (fun c40_ => ?_) (fun c40_ => ?_)
                    · skip
                      unfold fX11_tellMany_209
                      rw [if_neg (by decide)]
                      refine k_lt (fun c41_ => ?_) (fun c41_ => ?_)
                      · skip
                        first | refine k_add (by omega) (by omega) (fun x242_ x242_q => ?_) | refine k_let (fun x242_ => ?_)
                        exact ih _ _ _ _ _ _ _ Wh24_ t_a0 (by first | omega | assumption | decide) (by first | omega | assumption | decide) (by omega)
                      · skip
                        exact k_rW Wh24_ trivial
                    · skip
                      unfold fX11_tellMany_209
                      rw [if_pos (by decide)]
                      first | refine k_add (by omega) (by omega) (fun x143_ x143_q => ?_) | refine k_let (fun x143_ => ?_)
                      exact ih _ _ _ _ _ _ _ Wh24_ t_a0 (by first | omega | assumption | decide) (by first | omega | assumption | decide) (by omega)
            · skip
              exact k_rW Wh14_ trivial
        · skip
          refine k_kR e4_ ?_
          refine k_obj Wh tx13_ (by decide) ?_
          refine k_cP (kX3_pairAt Wh tx13_) (fun x844_ qx844_ => ?_)
          unfold fX11_tellMany_107
          rcases x844_ with _ | x844_s
          · rw [if_pos rfl]
            exact k_rW Wh trivial
          · rw [if_neg (by simp)]
            have tx844_s := qx844_ x844_s rfl
            refine k_gR (r' := 0) Wh tx844_s (by decide) rfl rfl (fun x145_ e46_ tx145_ => ?_)
            refine k_obj Wh t_a0 (by decide) ?_
            refine k_cWW (kX11_nextAfter Wh t_a0 tx145_) (by first | decide | exact fun _ q => q) (fun x247_ h48_ fh48_ qx247_ => ?_)
            have Wh48_ := fh48_.1
            have e49_ := kg_fr (fh48_.2.2.2 _ (by rw [t_a0.1, t_a0.2]; first | decide | simp)) e4_
            obtain ⟨x247_s, rfl, tx247_s⟩ := qx247_
            refine k_gR (r' := 0) Wh48_ t_a0 (by decide) rfl rfl (fun x450_ e51_ tx450_ => ?_)
            refine k_kR e49_ ?_
            refine k_gR (r' := 0) Wh48_ t_a0 (by decide) rfl rfl (fun x652_ e53_ tx652_ => ?_)
            refine k_obj Wh48_ tx450_ (by decide) ?_
            refine k_cP (kX6_sizeWith Wh48_ tx450_ tx13_ tx652_ tx247_s) (fun x754_ qx754_ => ?_)
            refine k_gI Wh48_ t_a0 (by decide) rfl (fun x955_ e56_ x955_l x955_u => ?_)
            refine k_le (fun c57_ => ?_) (fun c57_ => ?_)
            · skip
              refine k_kR e51_ ?_
              refine k_kR e53_ ?_
              refine k_obj Wh48_ tx450_ (by decide) ?_
              refine k_cWW (kX6_tell Wh48_ tx450_ tx652_ tx247_s) (by first | decide | exact fun _ q => q) (fun v58_ h59_ fh59_ qv58_ => ?_)
              have Wh59_ := fh59_.1
              refine k_gR (r' := 0) Wh59_ t_a0 (by decide) rfl rfl (fun x1360_ e61_ tx1360_ => ?_)
              refine k_if (fun c62_ => ?_) (fun c62_ => ?_)
              · skip
                unfold fX11_tellMany_181
                refine k_lt (fun c63_ => ?_) (fun c63_ => ?_)
                · skip
                  unfold fX11_tellMany_209
                  rw [if_pos (by decide)]
                  first | refine k_add (by omega) (by omega) (fun x164_ x164_q => ?_) | refine k_let (fun x164_ => ?_)
                  exact ih _ _ _ _ _ _ _ Wh59_ t_a0 (by first | omega | assumption | decide) (by first | omega | assumption | decide) (by omega)
                · skip
                  refine k_le (fun c65_ => ?_) (fun c65_ => ?_)
                  · skip
                    unfold fX11_tellMany_209
                    rw [if_pos (by decide)]
                    first | refine k_add (by omega) (by omega) (fun x166_ x166_q => ?_) | refine k_let (fun x166_ => ?_)
                    exact ih _ _ _ _ _ _ _ Wh59_ t_a0 (by first | omega | assumption | decide) (by first | omega | assumption | decide) (by omega)
                  · skip
                    rw [if_neg (fun q => by subst q; omega)]
                    refine k_if (fun c67_ => ?_) (fun c67_ => ?_)
                    · skip
                      unfold fX11_tellMany_209
                      rw [if_neg (by decide)]
                      refine k_lt (fun c68_ => ?_) (fun c68_ => ?_)
                      · skip
                        first | refine k_add (by omega) (by omega) (fun x269_ x269_q => ?_) | refine k_let (fun x269_ => ?_)
                        exact ih _ _ _ _ _ _ _ Wh59_ t_a0 (by first | omega | assumption | decide) (by first | omega | assumption | decide) (by omega)
                      · skip
                        exact k_rW Wh59_ trivial
                    · skip
                      unfold fX11_tellMany_209
                      rw [if_pos (by decide)]
                      first | refine k_add (by omega) (by omega) (fun x170_ x170_q => ?_) | refine k_let (fun x170_ => ?_)
                      exact ih _ _ _ _ _ _ _ Wh59_ t_a0 (by first | omega | assumption | decide) (by first | omega | assumption | decide) (by omega)
              · skip
                unfold fX11_tellMany_181
                refine k_lt (fun c71_ => ?_) (fun c71_ => ?_)
                · skip
                  unfold fX11_tellMany_209
                  rw [if_pos (by decide)]
                  first | refine k_add (by omega) (by omega) (fun x172_ x172_q => ?_) | refine k_let (fun x172_ => ?_)
                  exact ih _ _ _ _ _ _ _ Wh59_ t_a0 (by first | omega | assumption | decide) (by first | omega | assumption | decide) (by omega)
                · skip
                  refine k_le (fun c73_ => ?_) (fun c73_ => ?_)
                  · skip
                    unfold fX11_tellMany_209
                    rw [if_pos (by decide)]
                    first | refine k_add (by omega) (by omega) (fun x174_ x174_q => ?_) | refine k_let (fun x174_ => ?_)
                    exact ih _ _ _ _ _ _ _ Wh59_ t_a0 (by first | omega | assumption | decide) (by first | omega | assumption | decide) (by omega)
                  · skip
                    rw [if_neg (fun q => by subst q; omega)]
                    refine k_if (fun c75_ => ?_) (fun c75_ => ?_)
                    · skip
                      unfold fX11_tellMany_209
                      rw [if_neg (by decide)]
                      refine k_lt (fun c76_ => ?_) (fun c76_ => ?_)
                      · skip
                        first | refine k_add (by omega) (by omega) (fun x277_ x277_q => ?_) | refine k_let (fun x277_ => ?_)
                        exact ih _ _ _ _ _ _ _ Wh59_ t_a0 (by first | omega | assumption | decide) (by first | omega | assumption | decide) (by omega)
                      · skip
                        exact k_rW Wh59_ trivial
                    · skip
                      unfold fX11_tellMany_209
                      rw [if_pos (by decide)]
                      first | refine k_add (by omega) (by omega) (fun x178_ x178_q => ?_) | refine k_let (fun x178_ => ?_)
                      exact ih _ _ _ _ _ _ _ Wh59_ t_a0 (by first | omega | assumption | decide) (by first | omega | assumption | decide) (by omega)
            · skip
              exact k_rW Wh48_ trivial
