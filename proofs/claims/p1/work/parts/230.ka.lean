-- fX1_init
set_option maxHeartbeats 4000000 in
theorem kX1_init {G : GT} {a0 : Nat} {a1 : Nat} {a2 : Nat} {h : sm_H} (Wh : Wf G h) (l_a0 : a0 < h.1) (z_a0 : (G a0).1 = 0) (e_a0 : h.2.2 a0 = some (.inr (1, [.null, .null]))) (t_a1 : tG G a1 10 0) (t_a2 : tG G a2 4 0) : kJ (RA h.1 a0 [] (h.1 + 0) (h.2.1 + 0) G h (fun (G : GT) (_ : Unit) (_ : sm_H) => tG G a0 2 0)) (fX1_init a0 (some a1) (some a2) h) := by
  have L0 : (0 : Int32).toInt = 0 := rfl
  have L1 : (1 : Int32).toInt = 1 := rfl
  unfold fX1_init
  refine k_raw Wh z_a0 (Or.inl rfl) e_a0 (by first | decide | simp) (fun h1_ sh1_ uh1_ eh1_ gh1_ Wh1_ => ?_)
  have eh1_' : h1_.2.2 a0 = some (.inr (1, [sm_v (vR (some a1)), .null])) := eh1_
  refine k_raw Wh1_ z_a0 (Or.inl rfl) eh1_' (by first | decide | simp) (fun h2_ sh2_ uh2_ eh2_ gh2_ Wh2_ => ?_)
  have eh2_' : h2_.2.2 a0 = some (.inr (1, [sm_v (vR (some a1)), sm_v (vR (some a2))])) := eh2_
  exact k_rN (ci := 1) (r := 0) Wh2_ z_a0 (by omega) (by decide) eh2_' ⟨⟨some a1, rfl, fun _ => by simp, tN_s t_a1⟩, ⟨some a2, rfl, fun _ => by simp, tN_s t_a2⟩, trivial⟩ (by omega) (by omega) (fun _ _ t _ => t)

-- fX2_init
set_option maxHeartbeats 4000000 in
theorem kX2_init {G : GT} {r_a1 : Nat} {a0 : Nat} {a1 : Nat} {a2 : Int32} {h : sm_H} (Wh : Wf G h) (l_a0 : a0 < h.1) (z_a0 : (G a0).1 = 0) (e_a0 : h.2.2 a0 = some (.inr (2, [.null, .int 0, .null, .null, .int 0]))) (t_a1 : tG G a1 1 r_a1) (p0_ : a2 = 0 ∨ a2 = 1) : kJ (RA h.1 a0 [(1, 3), (21, 3)] (h.1 + 4) (h.2.1 + 58) G h (fun (G : GT) (_ : Unit) (_ : sm_H) => tG G a0 3 0)) (fX2_init a0 (some a1) a2 h) := by
  have L0 : (0 : Int32).toInt = 0 := rfl
  have L1 : (1 : Int32).toInt = 1 := rfl
  have L8 : (8 : Int32).toInt = 8 := rfl
  have L40 : (40 : Int32).toInt = 40 := rfl
  unfold fX2_init
  refine k_new (n := 2) Wh (by omega) rfl (fun h1_ sh1_ uh1_ eh1_ gh1_ Wh1_ zh1_ => ?_)
  have e2_ := (gh1_ _ (by omega)).trans e_a0
  refine k_cA (by omega) (by omega) (by first | decide | exact fun _ q => q) (kX0_init (ρ := 3) (R := 40) Wh1_ (by omega) zh1_ eh1_  (by first | omega | assumption | decide) (by first | omega | assumption | decide)) (fun v4_ h3_ Gh3_ fh3_ qh3_ => ?_)
  have Wh3_ := fh3_.1
  have sh3_ := fh3_.2.1
  have th3_ := fh3_.2.2.1
  have uh3_ := fh3_.2.2.2.1
  have t5_ := tg_up fh3_ Wh1_ t_a1 (by decide) (tg_z t_a1 (by decide) zh1_)
  have e6_ := (fh3_.2.2.2.2.2 _ (by omega) (by omega) (by rw [z_a0]; simp)).trans e2_
  have z7_ : (Gh3_ a0).1 = 0 := by rw [fh3_.2.2.2.2.1 _ (by omega) (by omega)]; exact z_a0
  refine k_raw Wh3_ z7_ (Or.inl rfl) e6_ (by first | decide | simp) (fun h8_ sh8_ uh8_ eh8_ gh8_ Wh8_ => ?_)
  have eh8_' : h8_.2.2 a0 = some (.inr (2, [sm_v (vR (some h.1)), .int 0, .null, .null, .int 0])) := eh8_
  rw [if_neg (by decide)]
  try rw [show ((8 : Int32)).toNatClampNeg = 8 from rfl]
  refine k_nwa (ρ := 0) Wh8_ (by omega) (by decide) (by decide) (dk_R 9 (by decide)) (fun h9_ Gh9_ sh9_ uh9_ gh9_ kh9_ Wh9_ th9_ lh9_ => ?_)
  have t10_ := tg_nw kh9_ (Nat.ne_of_lt (tG_lt Wh8_ t5_ (by decide))) t5_
  have t11_ := tg_nw kh9_ (Nat.ne_of_lt (tG_lt Wh8_ qh3_ (by decide))) qh3_
  have e12_ := (gh9_ _ (by omega)).trans eh8_'
  have z13_ : (Gh9_ a0).1 = 0 := by rw [kh9_ _ (by omega)]; exact z7_
  refine k_raw Wh9_ z13_ (Or.inl rfl) e12_ (by first | decide | simp) (fun h14_ sh14_ uh14_ eh14_ gh14_ Wh14_ => ?_)
  have eh14_' : h14_.2.2 a0 = some (.inr (2, [sm_v (vR (some h.1)), .int 0, sm_v (vR (some h8_.1)), .null, .int 0])) := eh14_
  rw [if_neg (by decide)]
  try rw [show ((8 : Int32)).toNatClampNeg = 8 from rfl]
  refine k_nwa (ρ := 0) Wh14_ (by omega) (by decide) (by decide) dk_Z (fun h15_ Gh15_ sh15_ uh15_ gh15_ kh15_ Wh15_ th15_ lh15_ => ?_)
  have t16_ := tg_nw kh15_ (Nat.ne_of_lt (tG_lt Wh14_ t10_ (by decide))) t10_
  have t17_ := tg_nw kh15_ (Nat.ne_of_lt (tG_lt Wh14_ t11_ (by decide))) t11_
  have t18_ := tg_nw kh15_ (Nat.ne_of_lt (tG_lt Wh14_ th9_ (by decide))) th9_
  have := congrArg (fun z => z.2.1) (kh15_ _ (Nat.ne_of_lt (tG_lt Wh14_ th9_ (by decide))))
  try simp only at this
  have e19_ := (gh15_ _ (by omega)).trans eh14_'
  have z20_ : (Gh15_ a0).1 = 0 := by rw [kh15_ _ (by omega)]; exact z13_
  refine k_raw Wh15_ z20_ (Or.inl rfl) e19_ (by first | decide | simp) (fun h21_ sh21_ uh21_ eh21_ gh21_ Wh21_ => ?_)
  have eh21_' : h21_.2.2 a0 = some (.inr (2, [sm_v (vR (some h.1)), .int 0, sm_v (vR (some h8_.1)), sm_v (vR (some h14_.1)), .int 0])) := eh21_
  refine k_kR (x := some h.1) (by rw [pu_get eh21_']; rfl) ?_
  refine k_obj Wh21_ t17_ (by decide) ?_
  refine k_cWA (kX0_copy Wh21_ t17_ t16_) (by first | decide | exact fun _ q => q) (fun v22_ h23_ fh23_ qv22_ => ?_)
  have Wh23_ := fh23_.1
  have sh23_ := fh23_.2.1
  have uh23_ := fh23_.2.2.1
  have e24_ := (fh23_.2.2.2 _ (by rw [z20_]; simp)).trans eh21_'
  rw [if_pos (by assumption)]
  refine k_raw Wh23_ z20_ (Or.inl rfl) e24_ (by first | decide | simp) (fun h25_ sh25_ uh25_ eh25_ gh25_ Wh25_ => ?_)
  have eh25_' : h25_.2.2 a0 = some (.inr (2, [sm_v (vR (some h.1)), sm_v (vI a2), sm_v (vR (some h8_.1)), sm_v (vR (some h14_.1)), .int 0])) := eh25_
  exact k_rN (ci := 2) (r := 0) Wh25_ z20_ (by omega) (by decide) eh25_' ⟨⟨some h.1, rfl, fun _ => by simp, tN_s t17_⟩, ⟨_, rfl, by first | decide | (rcases p0_ with rfl | rfl <;> decide), by first | decide | (rcases p0_ with rfl | rfl <;> decide)⟩, ⟨some h8_.1, rfl, fun _ => by simp, tN_s t18_⟩, ⟨some h14_.1, rfl, fun _ => by simp, tN_s th15_⟩, ⟨_, rfl, i_lo _, i_hi _⟩, trivial⟩ (by omega) (by omega) (fun _ _ t _ => t)

-- fX2_addView
set_option maxHeartbeats 4000000 in
theorem kX2_addView {G : GT} {r_a1 : Nat} {a0 : Nat} {a1 : Nat} {a2 : Int32} {h : sm_H} (Wh : Wf G h) (t_a0 : tG G a0 3 0) (t_a1 : tG G a1 1 r_a1) (p0_ : a2 = 0 ∨ a2 = 1) : kJ (RA h.1 h.1 [(1, 0), (3, 0), (21, 0), (22, 0), (29, 0)] (h.1 + 2) (h.2.1 + 18) G h (fun (G : GT) (r : Int32) (_ : sm_H) => r = 0 ∨ r = 1)) (fX2_addView a0 (some a1) a2 h) := by
  have L0 : (0 : Int32).toInt = 0 := rfl
  have L1 : (1 : Int32).toInt = 1 := rfl
  have L16 : (16 : Int32).toInt = 16 := rfl
  unfold fX2_addView
  refine k_gI Wh t_a0 (by decide) rfl (fun x11_ e2_ x11_l x11_u => ?_)
  refine k_lt (fun c3_ => ?_) (fun c3_ => ?_)
  · skip
    exact k_rA Wh (by omega) (by omega) (by first | assumption | decide)
  · skip
    refine k_kI e2_ ?_
    refine k_gR (r' := 0) Wh t_a0 (by decide) rfl rfl (fun x34_ e5_ tx34_ => ?_)
    refine k_len (B := 1200) Wh tx34_ rfl (fun x46_ x46_l x46_u => ?_)
    refine k_le (fun c7_ => ?_) (fun c7_ => ?_)
    · skip
      exact k_rA Wh (by omega) (by omega) (by first | assumption | decide)
    · skip
      refine k_kI e2_ ?_
      refine k_gR (r' := 0) Wh t_a0 (by decide) rfl rfl (fun x68_ e9_ tx68_ => ?_)
      refine k_len (B := 1200) Wh tx68_ rfl (fun x710_ x710_l x710_u => ?_)
      refine k_lt (fun c11_ => ?_) (fun c11_ => ?_)
      · skip
        refine k_new (n := 2) Wh (by omega) rfl (fun h12_ sh12_ uh12_ eh12_ gh12_ Wh12_ zh12_ => ?_)
        have e13_ := kg_fr (gh12_ _ (Nat.ne_of_lt (tG_lt Wh t_a0 (by decide)))) e2_
        have e14_ := kg_fr (gh12_ _ (Nat.ne_of_lt (tG_lt Wh t_a0 (by decide)))) e5_
        have e15_ := kg_fr (gh12_ _ (Nat.ne_of_lt (tG_lt Wh t_a0 (by decide)))) e9_
        refine k_cA (by omega) (by omega) (by first | decide | exact fun _ q => q) (kX0_init (ρ := 0) (R := 16) Wh12_ (by omega) zh12_ eh12_  (by first | omega | assumption | decide) (by first | omega | assumption | decide)) (fun v17_ h16_ Gh16_ fh16_ qh16_ => ?_)
        have Wh16_ := fh16_.1
        have sh16_ := fh16_.2.1
        have th16_ := fh16_.2.2.1
        have uh16_ := fh16_.2.2.2.1
        have e18_ := kg_fr (fh16_.2.2.2.2.2 _ (tG_lt Wh12_ t_a0 (by decide)) (tg_z t_a0 (by decide) zh12_) (by rw [t_a0.1, t_a0.2]; first | decide | simp)) e13_
        have e19_ := kg_fr (fh16_.2.2.2.2.2 _ (tG_lt Wh12_ t_a0 (by decide)) (tg_z t_a0 (by decide) zh12_) (by rw [t_a0.1, t_a0.2]; first | decide | simp)) e14_
        have e20_ := kg_fr (fh16_.2.2.2.2.2 _ (tG_lt Wh12_ t_a0 (by decide)) (tg_z t_a0 (by decide) zh12_) (by rw [t_a0.1, t_a0.2]; first | decide | simp)) e15_
        have t21_ := tg_up fh16_ Wh12_ t_a0 (by decide) (tg_z t_a0 (by decide) zh12_)
        have t22_ := tg_up fh16_ Wh12_ t_a1 (by decide) (tg_z t_a1 (by decide) zh12_)
        have t23_ := tg_up fh16_ Wh12_ tx34_ (by decide) (tg_z tx34_ (by decide) zh12_)
        have := tg_upl fh16_ Wh12_ tx34_ (by decide) (tg_z tx34_ (by decide) zh12_)
        have t24_ := tg_up fh16_ Wh12_ tx68_ (by decide) (tg_z tx68_ (by decide) zh12_)
        have := tg_upl fh16_ Wh12_ tx68_ (by decide) (tg_z tx68_ (by decide) zh12_)
        refine k_obj Wh16_ qh16_ (by decide) ?_
        refine k_cWA (kX0_copy Wh16_ qh16_ t22_) (by first | decide | exact fun _ q => q) (fun v25_ h26_ fh26_ qv25_ => ?_)
        have Wh26_ := fh26_.1
        have sh26_ := fh26_.2.1
        have uh26_ := fh26_.2.2.1
        have e27_ := kg_fr (fh26_.2.2.2 _ (by rw [t21_.1, t21_.2]; first | decide | simp)) e18_
        have e28_ := kg_fr (fh26_.2.2.2 _ (by rw [t21_.1, t21_.2]; first | decide | simp)) e19_
        have e29_ := kg_fr (fh26_.2.2.2 _ (by rw [t21_.1, t21_.2]; first | decide | simp)) e20_
        refine k_kR e28_ ?_
        refine k_kI e27_ ?_
        refine k_A t23_ (by first | decide | simp) (w_sR Wh26_ t23_ (by decide) (by decide) rfl (by first | omega | decide) (by first | omega | decide) (tN_s qh16_)) (fun h30_ oh30_ _ => ?_)
        have Wh30_ := oh30_.1
        have sh30_ := oh30_.2.1
        have uh30_ := oh30_.2.2.1
        have e31_ := kg_fr (oh30_.2.2.2 _ (tg_ne t21_ t23_ (by simp))) e27_
        have e32_ := kg_fr (oh30_.2.2.2 _ (tg_ne t21_ t23_ (by simp))) e29_
        refine k_kR e32_ ?_
        refine k_kI e31_ ?_
        refine k_A t24_ (by first | decide | simp) (w_sZ Wh30_ t24_ (nar_b (by assumption)) (by first | omega | decide) (by first | omega | decide)) (fun h33_ oh33_ _ => ?_)
        have Wh33_ := oh33_.1
        have sh33_ := oh33_.2.1
        have uh33_ := oh33_.2.2.1
        have e34_ := kg_fr (oh33_.2.2.2 _ (tg_ne t21_ t24_ (by simp))) e31_
        refine k_kI e34_ ?_
        refine k_A t21_ (by first | decide | simp) (w_putI Wh33_ t21_ (by decide) rfl (i_lo _) (i_hi _)) (fun h35_ oh35_ xh35_ => ?_)
        have Wh35_ := oh35_.1
        have sh35_ := oh35_.2.1
        have uh35_ := oh35_.2.2.1
        exact k_rA Wh35_ (by omega) (by omega) (by first | assumption | decide)
      · skip
        exact k_rA Wh (by omega) (by omega) (by first | assumption | decide)

-- fX10_init
set_option maxHeartbeats 4000000 in
theorem kX10_init {G : GT} {R : Nat} {a0 : Nat} {a1 : Int32} {a2 : Int32} {h : sm_H} (Wh : Wf G h) (l_a0 : a0 < h.1) (z_a0 : (G a0).1 = 0) (e_a0 : h.2.2 a0 = some (.inr (10, [.null, .int 0, .long 0]))) (p0_ : a2.toInt ≤ (R : Int)) (p1_ : R ≤ 1200) : kJ (RA h.1 a0 [] (h.1 + 2) (h.2.1 + (R + 2)) G h (fun (G : GT) (_ : Unit) (_ : sm_H) => tG G a0 11 0)) (fX10_init a0 a1 a2 h) := by
  have L0 : (0 : Int32).toInt = 0 := rfl
  have L1 : (1 : Int32).toInt = 1 := rfl
  unfold fX10_init
  refine k_raw Wh z_a0 (Or.inl rfl) e_a0 (by first | decide | simp) (fun h1_ sh1_ uh1_ eh1_ gh1_ Wh1_ => ?_)
  have eh1_' : h1_.2.2 a0 = some (.inr (10, [.null, sm_v (vI a1), .long 0])) := eh1_
  refine k_new (n := 2) Wh1_ (by omega) rfl (fun h2_ sh2_ uh2_ eh2_ gh2_ Wh2_ zh2_ => ?_)
  have e3_ := (gh2_ _ (by omega)).trans eh1_'
  refine k_cA (by omega) (by omega) (by first | decide | exact fun _ q => q) (kX0_init (ρ := 0) (R := R) Wh2_ (by omega) zh2_ eh2_  (by first | omega | assumption | decide) (by first | omega | assumption | decide)) (fun v5_ h4_ Gh4_ fh4_ qh4_ => ?_)
  have Wh4_ := fh4_.1
  have sh4_ := fh4_.2.1
  have th4_ := fh4_.2.2.1
  have uh4_ := fh4_.2.2.2.1
  have e6_ := (fh4_.2.2.2.2.2 _ (by omega) (by omega) (by rw [z_a0]; simp)).trans e3_
  have z7_ : (Gh4_ a0).1 = 0 := by rw [fh4_.2.2.2.2.1 _ (by omega) (by omega)]; exact z_a0
  refine k_raw Wh4_ z7_ (Or.inl rfl) e6_ (by first | decide | simp) (fun h8_ sh8_ uh8_ eh8_ gh8_ Wh8_ => ?_)
  have eh8_' : h8_.2.2 a0 = some (.inr (10, [sm_v (vR (some h1_.1)), sm_v (vI a1), .long 0])) := eh8_
  exact k_rN (ci := 10) (r := 0) Wh8_ z7_ (by omega) (by decide) eh8_' ⟨⟨some h1_.1, rfl, fun _ => by simp, tN_s qh4_⟩, ⟨_, rfl, i_lo _, i_hi _⟩, ⟨_, rfl⟩, trivial⟩ (by omega) (by omega) (fun _ _ t _ => t)

-- fX4_init
set_option maxHeartbeats 4000000 in
theorem kX4_init {G : GT} {a0 : Nat} {a1 : Nat} {h : sm_H} (Wh : Wf G h) (l_a0 : a0 < h.1) (z_a0 : (G a0).1 = 0) (e_a0 : h.2.2 a0 = some (.inr (4, [.null, .null]))) (t_a1 : tG G a1 11 0) : kJ (RA h.1 a0 [] (h.1 + 2) (h.2.1 + 18) G h (fun (G : GT) (_ : Unit) (_ : sm_H) => tG G a0 5 0)) (fX4_init a0 (some a1) h) := by
  have L0 : (0 : Int32).toInt = 0 := rfl
  have L1 : (1 : Int32).toInt = 1 := rfl
  have L16 : (16 : Int32).toInt = 16 := rfl
  unfold fX4_init
  refine k_new (n := 2) Wh (by omega) rfl (fun h1_ sh1_ uh1_ eh1_ gh1_ Wh1_ zh1_ => ?_)
  have e2_ := (gh1_ _ (by omega)).trans e_a0
  refine k_cA (by omega) (by omega) (by first | decide | exact fun _ q => q) (kX0_init (ρ := 0) (R := 16) Wh1_ (by omega) zh1_ eh1_  (by first | omega | assumption | decide) (by first | omega | assumption | decide)) (fun v4_ h3_ Gh3_ fh3_ qh3_ => ?_)
  have Wh3_ := fh3_.1
  have sh3_ := fh3_.2.1
  have th3_ := fh3_.2.2.1
  have uh3_ := fh3_.2.2.2.1
  have t5_ := tg_up fh3_ Wh1_ t_a1 (by decide) (tg_z t_a1 (by decide) zh1_)
  have e6_ := (fh3_.2.2.2.2.2 _ (by omega) (by omega) (by rw [z_a0]; simp)).trans e2_
  have z7_ : (Gh3_ a0).1 = 0 := by rw [fh3_.2.2.2.2.1 _ (by omega) (by omega)]; exact z_a0
  refine k_raw Wh3_ z7_ (Or.inl rfl) e6_ (by first | decide | simp) (fun h8_ sh8_ uh8_ eh8_ gh8_ Wh8_ => ?_)
  have eh8_' : h8_.2.2 a0 = some (.inr (4, [sm_v (vR (some h.1)), .null])) := eh8_
  refine k_raw Wh8_ z7_ (Or.inl rfl) eh8_' (by first | decide | simp) (fun h9_ sh9_ uh9_ eh9_ gh9_ Wh9_ => ?_)
  have eh9_' : h9_.2.2 a0 = some (.inr (4, [sm_v (vR (some h.1)), sm_v (vR (some a1))])) := eh9_
  exact k_rN (ci := 4) (r := 0) Wh9_ z7_ (by omega) (by decide) eh9_' ⟨⟨some h.1, rfl, fun _ => by simp, tN_s qh3_⟩, ⟨some a1, rfl, fun _ => by simp, tN_s t5_⟩, trivial⟩ (by omega) (by omega) (fun _ _ t _ => t)

-- fX3_init_28
set_option maxHeartbeats 4000000 in
theorem kX3_init_28 : ∀ (n : Nat) (G : GT) (a0 : Nat) (a1 : Int32) (h : sm_H) (N M1 M2 : Nat) (vs : List Value) (ps : Nat), Wf G h → N ≤ h.1 → a0 < N → (G a0).1 = 0 → h.2.2 a0 = some (.inr (3, vs)) → fa G 0 (FTs 4) vs → vs[1]? = some (.ref ps) → tG G ps 27 0 → (G ps).2.1 ≤ 20 → 0 ≤ a1.toInt → a1.toInt ≤ 20 → 20 - a1.toInt < (n : Int) → (h.1 : Int) + 6 * (20 - a1.toInt) ≤ (M1 : Int) → (h.2.1 : Int) + 65 * (20 - a1.toInt) ≤ (M2 : Int) → kJ (RA N a0 [(27, 0)] M1 M2 G h (fun (G : GT) (_ : Unit) (_ : sm_H) => tG G a0 4 0)) (fX3_init_28 n a0 a1 h) := by
  have L1 : (1 : Int32).toInt = 1 := rfl
  have L5 : (5 : Int32).toInt = 5 := rfl
  have L40 : (40 : Int32).toInt = 40 := rfl
  intro n
  induction n with
  | zero => intro G a0 a1 h N M1 M2 vs ps W hN ha z e hf hv t hl  c0 c1 m m1 m2; exfalso; omega
  | succ n ih =>
    intro G a0 a1 h N M1 M2 vs ps W hN ha z e hf hv t hl  c0 c1 m m1 m2
    unfold fX3_init_28
    refine k_kR (x := some ps) (by rw [pu_get e, hv]; rfl) ?_
    refine k_len (B := 40) W t rfl (fun x2 l2 u2 => ?_)
    refine k_le (fun c => ?_) (fun c => ?_)
    · exact k_rN (ci := 3) (r := 0) W z (by omega) (by decide) e hf (by omega) (by omega) (fun _ _ t _ => t)
    · skip
      refine k_kR (x := some ps) (by rw [pu_get e, hv]; rfl) ?_
      refine k_new (n := 2) W (by omega) rfl (fun h4 s4 u4 e4 g4 W4 z4 => ?_)
      have ea4 := (g4 a0 (by omega)).trans e
      refine k_new (n := 3) W4 (by omega) rfl (fun h5 s5 u5 e5 g5 W5 z5 => ?_)
      have ea5 := (g5 a0 (by omega)).trans ea4
      have eb5 := (g5 h.1 (by omega)).trans e4
      refine k_cA (by omega) (by omega) (by decide) (kX10_init (R := 40) W5 (by omega) z5 e5 (by omega) (by omega)) (fun v h6 G6 f6 q6 => ?_)
      have W6 := f6.1
      have s6 := f6.2.1
      have s6' := f6.2.2.1
      have u6 := f6.2.2.2.1
      have ea6 := (f6.2.2.2.2.2 a0 (by omega) (by omega) (by rw [z]; simp)).trans ea5
      have za6 : (G6 a0).1 = 0 := by rw [f6.2.2.2.2.1 a0 (by omega) (by omega)]; exact z
      have eb6 := (f6.2.2.2.2.2 h.1 (by omega) (by omega) (by rw [z4]; simp)).trans eb5
      have zb6 : (G6 h.1).1 = 0 := by rw [f6.2.2.2.2.1 h.1 (by omega) (by omega)]; exact z4
      have t6 := tg_up f6 W5 t (by decide) (tg_z t (by decide) z5)
      have tl6 := tg_upl f6 W5 t (by decide) (tg_z t (by decide) z5)
      have hf6 := fa_m (fA_m f6 W5 z5) (by decide) hf
      refine k_cA (by omega) (by omega) (by decide) (kX4_init W6 (by omega) zb6 eb6 q6) (fun v7 h7 G7 f7 q7 => ?_)
      have W7 := f7.1
      have s7 := f7.2.1
      have s7' := f7.2.2.1
      have u7 := f7.2.2.2.1
      have ea7 := (f7.2.2.2.2.2 a0 (by omega) (by omega) (by rw [za6]; simp)).trans ea6
      have za7 : (G7 a0).1 = 0 := by rw [f7.2.2.2.2.1 a0 (by omega) (by omega)]; exact za6
      have t7 := tg_up f7 W6 t6 (by decide) (tg_z t6 (by decide) zb6)
      have tl7 := tg_upl f7 W6 t6 (by decide) (tg_z t6 (by decide) zb6)
      have hf7 := fa_m (fA_m f7 W6 zb6) (by decide) hf6
      refine k_A t7 (by decide) (w_sR W7 t7 (by decide) (by decide) rfl (by omega) (by omega) (tN_s q7)) (fun h8 o8 _ => ?_)
      have s8 := o8.2.1
      have u8 := o8.2.2.1
      have ea8 := (o8.2.2.2 a0 (tg_z t7 (by decide) za7).symm).trans ea7
      refine k_add (by omega) (by omega) (fun x9 q9 => ?_)
      exact ih G7 a0 x9 h8 N M1 M2 vs ps o8.1 (by omega) ha za7 ea8 hf7 hv t7 (by omega) (by omega) (by omega) (by omega) (by omega) (by omega)
