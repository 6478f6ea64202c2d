-- fX6_tellAsked_2
set_option maxHeartbeats 4000000 in
theorem kX6_tellAsked_2 {G : GT} : ∀ (n : Nat) (a0 : Nat) (a1 : Nat) (a2 : Int32) (h : sm_H), Wf G h → tG G a0 7 0 → tG G a1 4 0 → 0 ≤ a2.toInt → a2.toInt ≤ 1200 → 1200 - a2.toInt < (n : Int) → kJ (RW [(1, 0), (5, 0), (7, 0), (21, 0)] G h (fun (r : Unit) (_ : sm_H) => True)) (fX6_tellAsked_2 n a0 (some a1) a2 h) := by
  have L0 : (0 : Int32).toInt = 0 := rfl
  have L1 : (1 : Int32).toInt = 1 := rfl
  intro n
  induction n with
  | zero => intro a0 a1 a2 h Wh t_a0 t_a1 p0_ p1_ m_; exfalso; omega
  | succ n ih =>
    intro a0 a1 a2 h Wh t_a0 t_a1 p0_ p1_ m_
    unfold fX6_tellAsked_2
    refine k_gI Wh t_a1 (by decide) rfl (fun x11_ e2_ x11_l x11_u => ?_)
    refine k_le (fun c3_ => ?_) (fun c3_ => ?_)
    · skip
      exact k_rW Wh trivial
    · skip
      refine k_obj Wh t_a1 (by decide) ?_
      refine k_cP (kX3_pairAt Wh t_a1) (fun x24_ qx24_ => ?_)
      rcases x24_ with _ | x24_s
      · rw [if_pos rfl]
        first | refine k_add (by omega) (by omega) (fun x45_ x45_q => ?_) | refine k_let (fun x45_ => ?_)
        exact ih _ _ _ _ Wh t_a0 t_a1 (by first | omega | assumption | decide) (by first | omega | assumption | decide) (by omega)
      · rw [if_neg (by simp)]
        have tx24_s := qx24_ x24_s rfl
        refine k_gR (r' := 0) Wh tx24_s (by decide) rfl rfl (fun x56_ e7_ tx56_ => ?_)
        refine k_gR (r' := 0) Wh tx24_s (by decide) rfl rfl (fun x68_ e9_ tx68_ => ?_)
        refine k_obj Wh t_a0 (by decide) ?_
        refine k_cWW (kX6_tell Wh t_a0 tx56_ tx68_) (by first | decide | exact fun _ q => q) (fun v10_ h11_ fh11_ qv10_ => ?_)
        have Wh11_ := fh11_.1
        first | refine k_add (by omega) (by omega) (fun x812_ x812_q => ?_) | refine k_let (fun x812_ => ?_)
        exact ih _ _ _ _ Wh11_ t_a0 t_a1 (by first | omega | assumption | decide) (by first | omega | assumption | decide) (by omega)

-- fX6_tellAsked
set_option maxHeartbeats 4000000 in
theorem kX6_tellAsked {G : GT} {a0 : Nat} {a1 : Nat} {h : sm_H} (Wh : Wf G h) (t_a0 : tG G a0 7 0) (t_a1 : tG G a1 4 0) : kJ (RW [(1, 0), (5, 0), (7, 0), (21, 0)] G h (fun (r : Unit) (_ : sm_H) => True)) (fX6_tellAsked a0 (some a1) h) := by
  have L0 : (0 : Int32).toInt = 0 := rfl
  have L1 : (1 : Int32).toInt = 1 := rfl
  unfold fX6_tellAsked
  exact k_WW (kX6_tellAsked_2 _ _ _ _ _ Wh t_a0 t_a1 (by first | omega | assumption | decide) (by first | omega | assumption | decide) (by simp only [sm_fuel_eq]; omega)) (by first | decide | exact fun _ q => q) (fun _ _ _ q => q)

-- fX6_integerSize
set_option maxHeartbeats 4000000 in
theorem kX6_integerSize {G : GT} {a0 : Int32} {h : sm_H} (Wh : Wf G h) : kJ (RP G h (fun r : Int32 => True)) (fX6_integerSize a0 h) := by
  have L0 : (0 : Int32).toInt = 0 := rfl
  have L1 : (1 : Int32).toInt = 1 := rfl
  unfold fX6_integerSize
  refine k_cP (kX6_numberContent Wh ) (fun x11_ qx11_ => ?_)
  have x11_l := qx11_.1
  have x11_u := qx11_.2
  refine k_cP (kX6_fieldSize Wh ) (fun x32_ qx32_ => ?_)
  exact k_rP trivial

-- fX6_innerContent
set_option maxHeartbeats 4000000 in
theorem kX6_innerContent {G : GT} {a0 : Nat} {a1 : Nat} {a2 : Int32} {h : sm_H} (Wh : Wf G h) (t_a0 : tG G a0 7 0) (t_a1 : tG G a1 4 0) : kJ (RP G h (fun r : Int32 => True)) (fX6_innerContent a0 (some a1) a2 h) := by
  have L0 : (0 : Int32).toInt = 0 := rfl
  have L1 : (1 : Int32).toInt = 1 := rfl
  unfold fX6_innerContent
  refine k_gI Wh t_a1 (by decide) rfl (fun x11_ e2_ x11_l x11_u => ?_)
  refine k_cP (kX6_integerSize Wh ) (fun x23_ qx23_ => ?_)
  refine k_gI Wh t_a0 (by decide) rfl (fun x44_ e5_ x44_l x44_u => ?_)
  refine k_cP (kX6_integerSize Wh ) (fun x56_ qx56_ => ?_)
  refine k_gI Wh t_a0 (by decide) rfl (fun x77_ e8_ x77_l x77_u => ?_)
  refine k_cP (kX6_integerSize Wh ) (fun x89_ qx89_ => ?_)
  first | refine k_add (by omega) (by omega) (fun x1010_ x1010_q => ?_) | refine k_let (fun x1010_ => ?_)
  refine k_cP (kX6_fieldSize Wh ) (fun x1111_ qx1111_ => ?_)
  exact k_rP trivial

-- fX6_outerContent
set_option maxHeartbeats 4000000 in
theorem kX6_outerContent {G : GT} {a0 : Nat} {a1 : Nat} {a2 : Int32} {h : sm_H} (Wh : Wf G h) (t_a0 : tG G a0 7 0) (t_a1 : tG G a1 4 0) : kJ (RP G h (fun r : Int32 => True)) (fX6_outerContent a0 (some a1) a2 h) := by
  have L0 : (0 : Int32).toInt = 0 := rfl
  have L1 : (1 : Int32).toInt = 1 := rfl
  unfold fX6_outerContent
  refine k_gI Wh t_a1 (by decide) rfl (fun x11_ e2_ x11_l x11_u => ?_)
  refine k_cP (kX6_integerSize Wh ) (fun x23_ qx23_ => ?_)
  refine k_gR (r' := 0) Wh t_a1 (by decide) rfl rfl (fun x44_ e5_ tx44_ => ?_)
  refine k_obj Wh tx44_ (by decide) ?_
  refine k_cP (kX0_size Wh tx44_) (fun x56_ qx56_ => ?_)
  have x56_l := qx56_.1
  have x56_u := qx56_.2
  refine k_cP (kX6_fieldSize Wh ) (fun x77_ qx77_ => ?_)
  first | refine k_add (by omega) (by omega) (fun x98_ x98_q => ?_) | refine k_let (fun x98_ => ?_)
  refine k_obj Wh t_a0 (by decide) ?_
  refine k_cP (kX6_innerContent Wh t_a0 t_a1) (fun x109_ qx109_ => ?_)
  refine k_cP (kX6_fieldSize Wh ) (fun x1210_ qx1210_ => ?_)
  exact k_rP trivial

-- fX6_sizeFor
set_option maxHeartbeats 4000000 in
theorem kX6_sizeFor {G : GT} {a0 : Nat} {a1 : Nat} {h : sm_H} (Wh : Wf G h) (t_a0 : tG G a0 7 0) (t_a1 : tG G a1 4 0) : kJ (RP G h (fun r : Int32 => True)) (fX6_sizeFor a0 (some a1) h) := by
  have L0 : (0 : Int32).toInt = 0 := rfl
  have L1 : (1 : Int32).toInt = 1 := rfl
  unfold fX6_sizeFor
  refine k_gI Wh t_a0 (by decide) rfl (fun x11_ e2_ x11_l x11_u => ?_)
  refine k_obj Wh t_a0 (by decide) ?_
  refine k_cP (kX6_outerContent Wh t_a0 t_a1) (fun x23_ qx23_ => ?_)
  refine k_cP (kX6_fieldSize Wh ) (fun x44_ qx44_ => ?_)
  exact k_rP trivial

-- fX6_sizeWith
set_option maxHeartbeats 4000000 in
theorem kX6_sizeWith {G : GT} {r_a2 : Nat} {a0 : Nat} {a1 : Nat} {a2 : Nat} {a3 : Nat} {h : sm_H} (Wh : Wf G h) (t_a0 : tG G a0 7 0) (t_a1 : tG G a1 4 0) (t_a2 : tG G a2 1 r_a2) (t_a3 : tG G a3 11 0) : kJ (RP G h (fun r : Int32 => True)) (fX6_sizeWith a0 (some a1) (some a2) (some a3) h) := by
  have L0 : (0 : Int32).toInt = 0 := rfl
  have L1 : (1 : Int32).toInt = 1 := rfl
  unfold fX6_sizeWith
  refine k_gI Wh t_a0 (by decide) rfl (fun x11_ e2_ x11_l x11_u => ?_)
  refine k_cP (kX6_pairContent Wh t_a2 t_a3) (fun x23_ qx23_ => ?_)
  refine k_cP (kX6_fieldSize Wh ) (fun x44_ qx44_ => ?_)
  refine k_obj Wh t_a0 (by decide) ?_
  refine k_cP (kX6_outerContent Wh t_a0 t_a1) (fun x65_ qx65_ => ?_)
  refine k_cP (kX6_fieldSize Wh ) (fun x86_ qx86_ => ?_)
  exact k_rP trivial

-- fX6_putHead
set_option maxHeartbeats 4000000 in
theorem kX6_putHead {G : GT} {a0 : Nat} {a1 : Int32} {a2 : Int32} {h : sm_H} (Wh : Wf G h) (t_a0 : tG G a0 7 0) : kJ (RW [(1, 0), (21, 0)] G h (fun (r : Unit) (_ : sm_H) => True)) (fX6_putHead a0 a1 a2 h) := by
  have L0 : (0 : Int32).toInt = 0 := rfl
  have L1 : (1 : Int32).toInt = 1 := rfl
  have L8 : (8 : Int32).toInt = 8 := rfl
  have L128 : (128 : Int32).toInt = 128 := rfl
  have L256 : (256 : Int32).toInt = 256 := rfl
  unfold fX6_putHead
  refine k_gR (r' := 0) Wh t_a0 (by decide) rfl rfl (fun x11_ e2_ tx11_ => ?_)
  refine k_obj Wh tx11_ (by decide) ?_
  refine k_cWW (kX0_add Wh tx11_) (by first | decide | exact fun _ q => q) (fun x23_ h4_ fh4_ qx23_ => ?_)
  have Wh4_ := fh4_.1
  have e5_ := kg_fr (fh4_.2.2.2 _ (by rw [t_a0.1, t_a0.2]; first | decide | simp)) e2_
  refine k_lt (fun c6_ => ?_) (fun c6_ => ?_)
  · skip
    unfold fX6_putHead_41
    refine k_lt (fun c7_ => ?_) (fun c7_ => ?_)
    · skip
      unfold fX6_putHead_65
      refine k_kR e5_ ?_
      refine k_obj Wh4_ tx11_ (by decide) ?_
      refine k_cWW (kX0_add Wh4_ tx11_) (by first | decide | exact fun _ q => q) (fun x28_ h9_ fh9_ qx28_ => ?_)
      have Wh9_ := fh9_.1
      exact k_rW Wh9_ trivial
    · skip
      refine k_kR e5_ ?_
      refine k_obj Wh4_ tx11_ (by decide) ?_
      refine k_cWW (kX0_add Wh4_ tx11_) (by first | decide | exact fun _ q => q) (fun x210_ h11_ fh11_ qx210_ => ?_)
      have Wh11_ := fh11_.1
      unfold fX6_putHead_65
      refine k_gR (r' := 0) Wh11_ t_a0 (by decide) rfl rfl (fun x112_ e13_ tx112_ => ?_)
      refine k_obj Wh11_ tx112_ (by decide) ?_
      refine k_cWW (kX0_add Wh11_ tx112_) (by first | decide | exact fun _ q => q) (fun x214_ h15_ fh15_ qx214_ => ?_)
      have Wh15_ := fh15_.1
      exact k_rW Wh15_ trivial
  · skip
    refine k_kR e5_ ?_
    refine k_le (fun c16_ => ?_) (fun c16_ => ?_)
    · skip
      refine k_obj Wh4_ tx11_ (by decide) ?_
      refine k_cWW (kX0_add Wh4_ tx11_) (by first | decide | exact fun _ q => q) (fun x517_ h18_ fh18_ qx517_ => ?_)
      have Wh18_ := fh18_.1
      unfold fX6_putHead_41
      refine k_lt (fun c19_ => ?_) (fun c19_ => ?_)
      · skip
        unfold fX6_putHead_65
        refine k_gR (r' := 0) Wh18_ t_a0 (by decide) rfl rfl (fun x120_ e21_ tx120_ => ?_)
        refine k_obj Wh18_ tx120_ (by decide) ?_
        refine k_cWW (kX0_add Wh18_ tx120_) (by first | decide | exact fun _ q => q) (fun x222_ h23_ fh23_ qx222_ => ?_)
        have Wh23_ := fh23_.1
        exact k_rW Wh23_ trivial
      · skip
        refine k_gR (r' := 0) Wh18_ t_a0 (by decide) rfl rfl (fun x124_ e25_ tx124_ => ?_)
        refine k_obj Wh18_ tx124_ (by decide) ?_
        refine k_cWW (kX0_add Wh18_ tx124_) (by first | decide | exact fun _ q => q) (fun x226_ h27_ fh27_ qx226_ => ?_)
        have Wh27_ := fh27_.1
        unfold fX6_putHead_65
        refine k_gR (r' := 0) Wh27_ t_a0 (by decide) rfl rfl (fun x128_ e29_ tx128_ => ?_)
        refine k_obj Wh27_ tx128_ (by decide) ?_
        refine k_cWW (kX0_add Wh27_ tx128_) (by first | decide | exact fun _ q => q) (fun x230_ h31_ fh31_ qx230_ => ?_)
        have Wh31_ := fh31_.1
        exact k_rW Wh31_ trivial
    · skip
      refine k_obj Wh4_ tx11_ (by decide) ?_
      refine k_cWW (kX0_add Wh4_ tx11_) (by first | decide | exact fun _ q => q) (fun x832_ h33_ fh33_ qx832_ => ?_)
      have Wh33_ := fh33_.1
      unfold fX6_putHead_41
      refine k_lt (fun c34_ => ?_) (fun c34_ => ?_)
      · skip
        unfold fX6_putHead_65
        refine k_gR (r' := 0) Wh33_ t_a0 (by decide) rfl rfl (fun x135_ e36_ tx135_ => ?_)
        refine k_obj Wh33_ tx135_ (by decide) ?_
        refine k_cWW (kX0_add Wh33_ tx135_) (by first | decide | exact fun _ q => q) (fun x237_ h38_ fh38_ qx237_ => ?_)
        have Wh38_ := fh38_.1
        exact k_rW Wh38_ trivial
      · skip
        refine k_gR (r' := 0) Wh33_ t_a0 (by decide) rfl rfl (fun x139_ e40_ tx139_ => ?_)
        refine k_obj Wh33_ tx139_ (by decide) ?_
        refine k_cWW (kX0_add Wh33_ tx139_) (by first | decide | exact fun _ q => q) (fun x241_ h42_ fh42_ qx241_ => ?_)
        have Wh42_ := fh42_.1
        unfold fX6_putHead_65
        refine k_gR (r' := 0) Wh42_ t_a0 (by decide) rfl rfl (fun x143_ e44_ tx143_ => ?_)
        refine k_obj Wh42_ tx143_ (by decide) ?_
        refine k_cWW (kX0_add Wh42_ tx143_) (by first | decide | exact fun _ q => q) (fun x245_ h46_ fh46_ qx245_ => ?_)
        have Wh46_ := fh46_.1
        exact k_rW Wh46_ trivial

-- fX6_putNumber_5
set_option maxHeartbeats 4000000 in
theorem kX6_putNumber_5 {G : GT} : ∀ (n : Nat) (a0 : Nat) (a1 : Int64) (a4 : Int32) (h : sm_H), Wf G h → tG G a0 7 0 → -1 ≤ a4.toInt → a4.toInt ≤ 10000 → a4.toInt + 1 < (n : Int) → kJ (RW [(1, 0), (21, 0)] G h (fun (r : Unit) (_ : sm_H) => True)) (fX6_putNumber_5 n a0 a1 a4 h) := by
  have Lm1 : (-1 : Int32).toInt = -1 := rfl
  have L0 : (0 : Int32).toInt = 0 := rfl
  have L1 : (1 : Int32).toInt = 1 := rfl
  have L8 : (8 : Int32).toInt = 8 := rfl
  intro n
  induction n with
  | zero => intro a0 a1 a4 h Wh t_a0 p0_ p1_ m_; exfalso; omega
  | succ n ih =>
    intro a0 a1 a4 h Wh t_a0 p0_ p1_ m_
    unfold fX6_putNumber_5
    refine k_lt (fun c1_ => ?_) (fun c1_ => ?_)
    · skip
      exact k_rW Wh trivial
    · skip
      refine k_gR (r' := 0) Wh t_a0 (by decide) rfl rfl (fun x12_ e3_ tx12_ => ?_)
      refine k_lt (fun c4_ => ?_) (fun c4_ => ?_)
      · skip
        refine k_obj Wh tx12_ (by decide) ?_
        refine k_cWW (kX0_add Wh tx12_) (by first | decide | exact fun _ q => q) (fun x25_ h6_ fh6_ qx25_ => ?_)
        have Wh6_ := fh6_.1
        first | refine k_add (by omega) (by omega) (fun x47_ x47_q => ?_) | refine k_let (fun x47_ => ?_)
        exact ih _ _ _ _ Wh6_ t_a0 (by first | omega | assumption | decide) (by first | omega | assumption | decide) (by omega)
      · skip
        refine k_obj Wh tx12_ (by decide) ?_
        refine k_cWW (kX0_add Wh tx12_) (by first | decide | exact fun _ q => q) (fun x68_ h9_ fh9_ qx68_ => ?_)
        have Wh9_ := fh9_.1
        first | refine k_add (by omega) (by omega) (fun x810_ x810_q => ?_) | refine k_let (fun x810_ => ?_)
        exact ih _ _ _ _ Wh9_ t_a0 (by first | omega | assumption | decide) (by first | omega | assumption | decide) (by omega)

-- fX6_putNumber
set_option maxHeartbeats 4000000 in
theorem kX6_putNumber {G : GT} {a0 : Nat} {a1 : Int64} {a3 : Int32} {h : sm_H} (Wh : Wf G h) (t_a0 : tG G a0 7 0) (p0_ : a3.toInt ≤ 10000) (p1_ : 0 ≤ a3.toInt) : kJ (RW [(1, 0), (21, 0)] G h (fun (r : Unit) (_ : sm_H) => True)) (fX6_putNumber a0 a1 a3 h) := by
  have L0 : (0 : Int32).toInt = 0 := rfl
  have L1 : (1 : Int32).toInt = 1 := rfl
  unfold fX6_putNumber
  first | refine k_sub (by omega) (by omega) (fun x11_ x11_q => ?_) | refine k_let (fun x11_ => ?_)
  exact k_WW (kX6_putNumber_5 _ _ _ _ _ Wh t_a0 (by first | omega | assumption | decide) (by first | omega | assumption | decide) (by simp only [sm_fuel_eq]; omega)) (by first | decide | exact fun _ q => q) (fun _ _ _ q => q)

-- fX6_putInteger
set_option maxHeartbeats 4000000 in
theorem kX6_putInteger {G : GT} {a0 : Nat} {a1 : Int32} {h : sm_H} (Wh : Wf G h) (t_a0 : tG G a0 7 0) : kJ (RW [(1, 0), (21, 0)] G h (fun (r : Unit) (_ : sm_H) => True)) (fX6_putInteger a0 a1 h) := by
  have L0 : (0 : Int32).toInt = 0 := rfl
  have L1 : (1 : Int32).toInt = 1 := rfl
  have L2 : (2 : Int32).toInt = 2 := rfl
  unfold fX6_putInteger
  refine k_cP (kX6_numberContent Wh ) (fun x11_ qx11_ => ?_)
  have x11_l := qx11_.1
  have x11_u := qx11_.2
  refine k_obj Wh t_a0 (by decide) ?_
  refine k_cWW (kX6_putHead Wh t_a0) (by first | decide | exact fun _ q => q) (fun v2_ h3_ fh3_ qv2_ => ?_)
  have Wh3_ := fh3_.1
  refine k_obj Wh3_ t_a0 (by decide) ?_
  refine k_cWW (kX6_putNumber Wh3_ t_a0 (by first | omega | assumption | decide) (by first | omega | assumption | decide)) (by first | decide | exact fun _ q => q) (fun v4_ h5_ fh5_ qv4_ => ?_)
  have Wh5_ := fh5_.1
  exact k_rW Wh5_ trivial

-- fX6_putParts_2
set_option maxHeartbeats 4000000 in
theorem kX6_putParts_2 {G : GT} {r_a1 : Nat} : ∀ (n : Nat) (a0 : Nat) (a1 : Nat) (a2 : Int32) (h : sm_H), Wf G h → tG G a0 7 0 → tG G a1 1 r_a1 → 0 ≤ a2.toInt → a2.toInt ≤ 1200 → 1200 - a2.toInt < (n : Int) → kJ (RW [(1, 0), (21, 0)] G h (fun (r : Unit) (_ : sm_H) => True)) (fX6_putParts_2 n a0 (some a1) a2 h) := by
  have L0 : (0 : Int32).toInt = 0 := rfl
  have L1 : (1 : Int32).toInt = 1 := rfl
  intro n
  induction n with
  | zero => intro a0 a1 a2 h Wh t_a0 t_a1 p0_ p1_ m_; exfalso; omega
  | succ n ih =>
    intro a0 a1 a2 h Wh t_a0 t_a1 p0_ p1_ m_
    unfold fX6_putParts_2
    refine k_obj Wh t_a1 (by decide) ?_
    refine k_cP (kX0_size Wh t_a1) (fun x11_ qx11_ => ?_)
    have x11_l := qx11_.1
    have x11_u := qx11_.2
    refine k_le (fun c2_ => ?_) (fun c2_ => ?_)
    · skip
      exact k_rW Wh trivial
    · skip
      refine k_gR (r' := 0) Wh t_a0 (by decide) rfl rfl (fun x33_ e4_ tx33_ => ?_)
      refine k_obj Wh t_a1 (by decide) ?_
      refine k_cP (kX0_at Wh t_a1) (fun x45_ qx45_ => ?_)
      refine k_obj Wh tx33_ (by decide) ?_
      refine k_cWW (kX0_add Wh tx33_) (by first | decide | exact fun _ q => q) (fun x66_ h7_ fh7_ qx66_ => ?_)
      have Wh7_ := fh7_.1
      first | refine k_add (by omega) (by omega) (fun x88_ x88_q => ?_) | refine k_let (fun x88_ => ?_)
      exact ih _ _ _ _ Wh7_ t_a0 t_a1 (by first | omega | assumption | decide) (by first | omega | assumption | decide) (by omega)

-- fX6_putParts
set_option maxHeartbeats 4000000 in
theorem kX6_putParts {G : GT} {r_a1 : Nat} {a0 : Nat} {a1 : Nat} {h : sm_H} (Wh : Wf G h) (t_a0 : tG G a0 7 0) (t_a1 : tG G a1 1 r_a1) : kJ (RW [(1, 0), (21, 0)] G h (fun (r : Unit) (_ : sm_H) => True)) (fX6_putParts a0 (some a1) h) := by
  have L0 : (0 : Int32).toInt = 0 := rfl
  have L1 : (1 : Int32).toInt = 1 := rfl
  unfold fX6_putParts
  exact k_WW (kX6_putParts_2 _ _ _ _ _ Wh t_a0 t_a1 (by first | omega | assumption | decide) (by first | omega | assumption | decide) (by simp only [sm_fuel_eq]; omega)) (by first | decide | exact fun _ q => q) (fun _ _ _ q => q)

-- fX6_putName_47
set_option maxHeartbeats 4000000 in
theorem kX6_putName_47 {G : GT} {K25 : Nat → Option Nat → Int32 → sm_H → Option (Unit × sm_H)} {a0 a1 : Nat} {a2 : Int32} (hK : ∀ (x : Int32) (h' : sm_H), x.toInt = a2.toInt + 1 → Wf G h' → kJ (RW [(1, 0), (21, 0)] G h' (fun (_ : Unit) (_ : sm_H) => True)) (K25 a0 (some a1) x h')) (t : tG G a0 7 0) (ha : a2.toInt < 1200) : ∀ (n : Nat) (a3 : Int64) (a5 : Int32) (h : sm_H), Wf G h → -1 ≤ a5.toInt → a5.toInt + 1 < (n : Int) → kJ (RW [(1, 0), (21, 0)] G h (fun (_ : Unit) (_ : sm_H) => True)) (fX6_putName_47 K25 n a0 (some a1) a2 a3 a5 h) := by
  have L0 : (0 : Int32).toInt = 0 := rfl
  have L1 : (1 : Int32).toInt = 1 := rfl
  have Lm1 : (-1 : Int32).toInt = -1 := rfl
  have lo2 := i_lo a2
  intro n
  induction n with
  | zero => intro a3 a5 h Wh p0 m; exfalso; omega
  | succ n ih =>
    intro a3 a5 h Wh p0 m
    have hi5 := i_hi a5
    unfold fX6_putName_47
    refine k_lt (fun c => ?_) (fun c => ?_)
    · refine k_add (by omega) (by omega) (fun x1 q1 => ?_)
      exact hK _ _ (by omega) Wh
    · refine k_gR Wh t (by decide) rfl rfl (fun x2 e2 t2 => ?_)
      refine k_le (fun c => ?_) (fun c => ?_)
      · refine k_obj Wh t2 (by decide) ?_
        refine k_cWW (kX0_add Wh t2) (by decide) (fun x3 h4 f4 _ => ?_)
        refine k_add (by omega) (by omega) (fun x5 q5 => ?_)
        exact ih _ _ _ f4.1 (by omega) (by omega)
      · refine k_obj Wh t2 (by decide) ?_
        refine k_cWW (kX0_add Wh t2) (by decide) (fun x3 h4 f4 _ => ?_)
        refine k_add (by omega) (by omega) (fun x5 q5 => ?_)
        exact ih _ _ _ f4.1 (by omega) (by omega)

-- fX6_putName_25
set_option maxHeartbeats 4000000 in
theorem kX6_putName_25 {G : GT} {r_a1 : Nat} : ∀ (n : Nat) (a0 : Nat) (a1 : Nat) (a2 : Int32) (h : sm_H), Wf G h → tG G a0 7 0 → tG G a1 1 r_a1 → 0 ≤ a2.toInt → a2.toInt ≤ 1200 → 1200 - a2.toInt < (n : Int) → kJ (RW [(1, 0), (21, 0)] G h (fun (_ : Unit) (_ : sm_H) => True)) (fX6_putName_25 n a0 (some a1) a2 h) := by
  have L1 : (1 : Int32).toInt = 1 := rfl
  intro n
  induction n with
  | zero => intro a0 a1 a2 h Wh t0 t1 p0 p1 m; exfalso; omega
  | succ n ih =>
    intro a0 a1 a2 h Wh t0 t1 p0 p1 m
    unfold fX6_putName_25
    refine k_obj Wh t1 (by decide) ?_
    refine k_cP (kX0_size Wh t1) (fun x1 q1 => ?_)
    refine k_le (fun c => ?_) (fun c => ?_)
    · exact k_rW Wh trivial
    · refine k_obj Wh t1 (by decide) ?_
      refine k_cP (kX0_at Wh t1) (fun x3 _ => ?_)
      refine k_cP (kX6_sevens Wh) (fun x5 q5 => ?_)
      refine k_sub (by omega) (by omega) (fun x7 q7 => ?_)
      exact kX6_putName_47 (fun x h' hx W' => ih _ _ _ _ W' t0 t1 (by omega) (by omega) (by omega)) t0 (by omega) _ _ _ _ Wh (by omega) (by simp only [sm_fuel_eq]; omega)

-- fX6_putName
set_option maxHeartbeats 4000000 in
theorem kX6_putName {G : GT} {r_a1 : Nat} {a0 : Nat} {a1 : Nat} {h : sm_H} (Wh : Wf G h) (t_a0 : tG G a0 7 0) (t_a1 : tG G a1 1 r_a1) : kJ (RW [(1, 0), (21, 0)] G h (fun (r : Unit) (_ : sm_H) => True)) (fX6_putName a0 (some a1) h) := by
  have L0 : (0 : Int32).toInt = 0 := rfl
  have L1 : (1 : Int32).toInt = 1 := rfl
  have L2 : (2 : Int32).toInt = 2 := rfl
  unfold fX6_putName
  refine k_gR (r' := 0) Wh t_a0 (by decide) rfl rfl (fun x11_ e2_ tx11_ => ?_)
  refine k_obj Wh t_a1 (by decide) ?_
  refine k_cP (kX0_at Wh t_a1) (fun x23_ qx23_ => ?_)
  refine k_obj Wh t_a1 (by decide) ?_
  refine k_cP (kX0_at Wh t_a1) (fun x44_ qx44_ => ?_)
  refine k_obj Wh tx11_ (by decide) ?_
  refine k_cWW (kX0_add Wh tx11_) (by first | decide | exact fun _ q => q) (fun x65_ h6_ fh6_ qx65_ => ?_)
  have Wh6_ := fh6_.1
  exact k_WW (kX6_putName_25 _ _ _ _ _ Wh6_ t_a0 t_a1 (by first | omega | assumption | decide) (by first | omega | assumption | decide) (by simp only [sm_fuel_eq]; omega)) (by first | decide | exact fun _ q => q) (fun _ _ _ q => q)

-- fX6_putPair
set_option maxHeartbeats 4000000 in
theorem kX6_putPair {G : GT} {a0 : Nat} {a1 : Nat} {h : sm_H} (Wh : Wf G h) (t_a0 : tG G a0 7 0) (t_a1 : tG G a1 5 0) : kJ (RW [(1, 0), (21, 0)] G h (fun (r : Unit) (_ : sm_H) => True)) (fX6_putPair a0 (some a1) h) := by
  have L0 : (0 : Int32).toInt = 0 := rfl
  have L1 : (1 : Int32).toInt = 1 := rfl
  have L4 : (4 : Int32).toInt = 4 := rfl
  have L6 : (6 : Int32).toInt = 6 := rfl
  have L48 : (48 : Int32).toInt = 48 := rfl
  unfold fX6_putPair
  refine k_gR (r' := 0) Wh t_a1 (by decide) rfl rfl (fun x11_ e2_ tx11_ => ?_)
  refine k_gR (r' := 0) Wh t_a1 (by decide) rfl rfl (fun x23_ e4_ tx23_ => ?_)
  refine k_cP (kX6_pairContent Wh tx11_ tx23_) (fun x35_ qx35_ => ?_)
  refine k_obj Wh t_a0 (by decide) ?_
  refine k_cWW (kX6_putHead Wh t_a0) (by first | decide | exact fun _ q => q) (fun v6_ h7_ fh7_ qv6_ => ?_)
  have Wh7_ := fh7_.1
  have e8_ := kg_fr (fh7_.2.2.2 _ (by rw [t_a1.1, t_a1.2]; first | decide | simp)) e2_
  have e9_ := kg_fr (fh7_.2.2.2 _ (by rw [t_a1.1, t_a1.2]; first | decide | simp)) e4_
  refine k_kR e8_ ?_
  refine k_cP (kX6_nameContent Wh7_ tx11_) (fun x710_ qx710_ => ?_)
  have x710_l := qx710_.1
  have x710_u := qx710_.2
  refine k_obj Wh7_ t_a0 (by decide) ?_
  refine k_cWW (kX6_putHead Wh7_ t_a0) (by first | decide | exact fun _ q => q) (fun v11_ h12_ fh12_ qv11_ => ?_)
  have Wh12_ := fh12_.1
  have e13_ := kg_fr (fh12_.2.2.2 _ (by rw [t_a1.1, t_a1.2]; first | decide | simp)) e8_
  have e14_ := kg_fr (fh12_.2.2.2 _ (by rw [t_a1.1, t_a1.2]; first | decide | simp)) e9_
  refine k_kR e13_ ?_
  refine k_obj Wh12_ t_a0 (by decide) ?_
  refine k_cWW (kX6_putName Wh12_ t_a0 tx11_) (by first | decide | exact fun _ q => q) (fun v15_ h16_ fh16_ qv15_ => ?_)
  have Wh16_ := fh16_.1
  have e17_ := kg_fr (fh16_.2.2.2 _ (by rw [t_a1.1, t_a1.2]; first | decide | simp)) e14_
  refine k_kR e17_ ?_
  refine k_cP (kX6_valueContent Wh16_ tx23_) (fun x1318_ qx1318_ => ?_)
  have x1318_l := qx1318_.1
  have x1318_u := qx1318_.2
  refine k_kR e17_ ?_
  refine k_gI Wh16_ tx23_ (by decide) rfl (fun x1619_ e20_ x1619_l x1619_u => ?_)
  refine k_obj Wh16_ t_a0 (by decide) ?_
  refine k_cWW (kX6_putHead Wh16_ t_a0) (by first | decide | exact fun _ q => q) (fun v21_ h22_ fh22_ qv21_ => ?_)
  have Wh22_ := fh22_.1
  have e23_ := kg_fr (fh22_.2.2.2 _ (by rw [t_a1.1, t_a1.2]; first | decide | simp)) e17_
  refine k_kR e23_ ?_
  refine k_gI Wh22_ tx23_ (by decide) rfl (fun x1924_ e25_ x1924_l x1924_u => ?_)
  refine k_if (fun c26_ => ?_) (fun c26_ => ?_)
  · skip
    refine k_kR e23_ ?_
    refine k_gR (r' := 0) Wh22_ tx23_ (by decide) rfl rfl (fun x3127_ e28_ tx3127_ => ?_)
    refine k_obj Wh22_ t_a0 (by decide) ?_
    refine k_cWW (kX6_putName Wh22_ t_a0 tx3127_) (by first | decide | exact fun _ q => q) (fun v29_ h30_ fh30_ qv29_ => ?_)
    have Wh30_ := fh30_.1
    exact k_rW Wh30_ trivial
  · skip
    refine k_kR e23_ ?_
    refine k_kI e25_ ?_
    refine k_if (fun c31_ => ?_) (fun c31_ => ?_)
    · skip
      refine k_kR e23_ ?_
      refine k_gR (r' := 0) Wh22_ tx23_ (by decide) rfl rfl (fun x2732_ e33_ tx2732_ => ?_)
      refine k_obj Wh22_ t_a0 (by decide) ?_
      refine k_cWW (kX6_putParts Wh22_ t_a0 tx2732_) (by first | decide | exact fun _ q => q) (fun v34_ h35_ fh35_ qv34_ => ?_)
      have Wh35_ := fh35_.1
      exact k_rW Wh35_ trivial
    · skip
      refine k_kR e23_ ?_
      refine k_gJ Wh22_ tx23_ (by decide) rfl (fun x2336_ e37_ => ?_)
      refine k_obj Wh22_ t_a0 (by decide) ?_
      refine k_cWW (kX6_putNumber Wh22_ t_a0 (by first | omega | assumption | decide) (by first | omega | assumption | decide)) (by first | decide | exact fun _ q => q) (fun v38_ h39_ fh39_ qv38_ => ?_)
      have Wh39_ := fh39_.1
      exact k_rW Wh39_ trivial
