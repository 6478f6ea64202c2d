-- fX3_init
set_option maxHeartbeats 4000000 in
theorem kX3_init {G : GT} {a0 : Nat} {h : sm_H} (Wh : Wf G h) (l_a0 : a0 < h.1) (z_a0 : (G a0).1 = 0) (e_a0 : h.2.2 a0 = some (.inr (3, [.null, .null, .null, .int 0, .int 0, .int 0, .int 0, .int 0, .int 0]))) : kJ (RA h.1 a0 [(27, 0)] (h.1 + 123) (h.2.1 + 1362) G h (fun (G : GT) (_ : Unit) (_ : sm_H) => tG G a0 4 0)) (fX3_init a0 h) := by
  have L0 : (0 : Int32).toInt = 0 := rfl
  have L1 : (1 : Int32).toInt = 1 := rfl
  have L20 : (20 : Int32).toInt = 20 := rfl
  have L40 : (40 : Int32).toInt = 40 := rfl
  unfold fX3_init
  refine k_new (n := 2) Wh (by omega) rfl (fun h1_ sh1_ uh1_ eh1_ gh1_ Wh1_ zh1_ => ?_)
  have e2_ := (gh1_ _ (by omega)).trans e_a0
  refine k_cA (by omega) (by omega) (by first | decide | exact fun _ q => q) (kX0_init (ρ := 0) (R := 40) Wh1_ (by omega) zh1_ eh1_  (by first | omega | assumption | decide) (by first | omega | assumption | decide)) (fun v4_ h3_ Gh3_ fh3_ qh3_ => ?_)
  have Wh3_ := fh3_.1
  have sh3_ := fh3_.2.1
  have th3_ := fh3_.2.2.1
  have uh3_ := fh3_.2.2.2.1
  have e5_ := (fh3_.2.2.2.2.2 _ (by omega) (by omega) (by rw [z_a0]; simp)).trans e2_
  have z6_ : (Gh3_ a0).1 = 0 := by rw [fh3_.2.2.2.2.1 _ (by omega) (by omega)]; exact z_a0
  refine k_raw Wh3_ z6_ (Or.inl rfl) e5_ (by first | decide | simp) (fun h7_ sh7_ uh7_ eh7_ gh7_ Wh7_ => ?_)
  have eh7_' : h7_.2.2 a0 = some (.inr (3, [sm_v (vR (some h.1)), .null, .null, .int 0, .int 0, .int 0, .int 0, .int 0, .int 0])) := eh7_
  rw [if_neg (by decide)]
  try rw [show ((20 : Int32)).toNatClampNeg = 20 from rfl]
  refine k_nwa (ρ := 0) Wh7_ (by omega) (by decide) (by decide) (dk_R 7 (by decide)) (fun h8_ Gh8_ sh8_ uh8_ gh8_ kh8_ Wh8_ th8_ lh8_ => ?_)
  have t9_ := tg_nw kh8_ (Nat.ne_of_lt (tG_lt Wh7_ qh3_ (by decide))) qh3_
  have e10_ := (gh8_ _ (by omega)).trans eh7_'
  have z11_ : (Gh8_ a0).1 = 0 := by rw [kh8_ _ (by omega)]; exact z6_
  refine k_raw Wh8_ z11_ (Or.inl rfl) e10_ (by first | decide | simp) (fun h12_ sh12_ uh12_ eh12_ gh12_ Wh12_ => ?_)
  have eh12_' : h12_.2.2 a0 = some (.inr (3, [sm_v (vR (some h.1)), sm_v (vR (some h7_.1)), .null, .int 0, .int 0, .int 0, .int 0, .int 0, .int 0])) := eh12_
  exact kX3_init_28 _ _ _ _ _ _ _ _ _ _ Wh12_ (by omega) (by omega) z11_ eh12_' ⟨⟨some h.1, rfl, fun _ => by simp, tN_s t9_⟩, ⟨some h7_.1, rfl, fun _ => by simp, tN_s th8_⟩, ⟨none, rfl, fun q => absurd q (by decide), tN_n⟩, ⟨_, rfl, i_lo _, i_hi _⟩, ⟨_, rfl, i_lo _, i_hi _⟩, ⟨_, rfl, i_lo _, i_hi _⟩, ⟨_, rfl, i_lo _, i_hi _⟩, ⟨_, rfl, i_lo _, i_hi _⟩, ⟨_, rfl, by first | decide | (rcases p0_ with rfl | rfl <;> decide), by first | decide | (rcases p0_ with rfl | rfl <;> decide)⟩, trivial⟩ rfl th8_ (by omega) (by first | omega | decide) (by first | omega | decide) (by simp only [sm_fuel_eq]; omega) (by omega) (by omega)

-- fX5_init
set_option maxHeartbeats 4000000 in
theorem kX5_init {G : GT} {a0 : Nat} {a1 : Nat} {h : sm_H} (Wh : Wf G h) (l_a0 : a0 < h.1) (z_a0 : (G a0).1 = 0) (e_a0 : h.2.2 a0 = some (.inr (5, [.null, .null, .int 0]))) (t_a1 : tG G a1 1 1) : kJ (RA h.1 a0 [] (h.1 + 3) (h.2.1 + 5) G h (fun (G : GT) (_ : Unit) (_ : sm_H) => tG G a0 6 0)) (fX5_init a0 (some a1) h) := by
  have L0 : (0 : Int32).toInt = 0 := rfl
  have L1 : (1 : Int32).toInt = 1 := rfl
  have L2 : (2 : Int32).toInt = 2 := rfl
  unfold fX5_init
  refine k_new (n := 3) Wh (by omega) rfl (fun h1_ sh1_ uh1_ eh1_ gh1_ Wh1_ zh1_ => ?_)
  have e2_ := (gh1_ _ (by omega)).trans e_a0
  refine k_cA (by omega) (by omega) (by first | decide | exact fun _ q => q) (kX10_init (R := 0) Wh1_ (by omega) zh1_ eh1_  (by first | omega | assumption | decide) (by first | omega | assumption | decide)) (fun v4_ h3_ Gh3_ fh3_ qh3_ => ?_)
  have Wh3_ := fh3_.1
  have sh3_ := fh3_.2.1
  have th3_ := fh3_.2.2.1
  have uh3_ := fh3_.2.2.2.1
  have t5_ := tg_up fh3_ Wh1_ t_a1 (by decide) (tg_z t_a1 (by decide) zh1_)
  have e6_ := (fh3_.2.2.2.2.2 _ (by omega) (by omega) (by rw [z_a0]; simp)).trans e2_
  have z7_ : (Gh3_ a0).1 = 0 := by rw [fh3_.2.2.2.2.1 _ (by omega) (by omega)]; exact z_a0
  refine k_raw Wh3_ z7_ (Or.inl rfl) e6_ (by first | decide | simp) (fun h8_ sh8_ uh8_ eh8_ gh8_ Wh8_ => ?_)
  have eh8_' : h8_.2.2 a0 = some (.inr (5, [.null, sm_v (vR (some h.1)), .int 0])) := eh8_
  refine k_raw Wh8_ z7_ (Or.inl rfl) eh8_' (by first | decide | simp) (fun h9_ sh9_ uh9_ eh9_ gh9_ Wh9_ => ?_)
  have eh9_' : h9_.2.2 a0 = some (.inr (5, [sm_v (vR (some a1)), sm_v (vR (some h.1)), .int 0])) := eh9_
  exact k_rN (ci := 5) (r := 0) Wh9_ z7_ (by omega) (by decide) eh9_' ⟨⟨some a1, rfl, fun _ => by simp, tN_s t5_⟩, ⟨some h.1, rfl, fun _ => by simp, tN_s qh3_⟩, ⟨_, rfl, by first | decide | (rcases p0_ with rfl | rfl <;> decide), by first | decide | (rcases p0_ with rfl | rfl <;> decide)⟩, trivial⟩ (by omega) (by omega) (fun _ _ t _ => t)

-- fX6_init_39
set_option maxHeartbeats 4000000 in
theorem kX6_init_39 : ∀ (n : Nat) (G : GT) (a0 : Nat) (a1 : Nat) (a2 : Int32) (h : sm_H) (N M1 M2 : Nat) (vs : List Value) (ps : Nat), Wf G h → N ≤ h.1 → a0 < N → (G a0).1 = 0 → h.2.2 a0 = some (.inr (6, vs)) → fa G 0 (FTs 7) vs → vs[1]? = some (.ref ps) → tG G ps 27 0 → (G ps).2.1 ≤ 40 → tG G a1 11 0 → 0 ≤ a2.toInt → a2.toInt ≤ 40 → 40 - a2.toInt < (n : Int) → (h.1 : Int) + 3 * (40 - a2.toInt) ≤ (M1 : Int) → (h.2.1 : Int) + 20 * (40 - a2.toInt) ≤ (M2 : Int) → kJ (RA N a0 [(27, 0)] M1 M2 G h (fun (G : GT) (_ : Unit) (_ : sm_H) => tG G a0 7 0)) (fX6_init_39 n a0 (some a1) a2 h) := by
  have L1 : (1 : Int32).toInt = 1 := rfl
  intro n
  induction n with
  | zero => intro G a0 a1 a2 h N M1 M2 vs ps W hN ha z e hf hv t hl t1 c0 c1 m m1 m2; exfalso; omega
  | succ n ih =>
    intro G a0 a1 a2 h N M1 M2 vs ps W hN ha z e hf hv t hl t1 c0 c1 m m1 m2
    unfold fX6_init_39
    refine k_kR (x := some ps) (by rw [pu_get e, hv]; rfl) ?_
    refine k_len (B := 40) W t rfl (fun x2 l2 u2 => ?_)
    refine k_le (fun c => ?_) (fun c => ?_)
    · exact k_rN (ci := 6) (r := 0) W z (by omega) (by decide) e hf (by omega) (by omega) (fun _ _ t _ => t)
    · refine k_kR (x := some ps) (by rw [pu_get e, hv]; rfl) ?_
      refine k_new (n := 2) W (by omega) rfl (fun h4 s4 u4 e4 g4 W4 z4 => ?_)
      have ea4 := (g4 a0 (by omega)).trans e
      refine k_cA (by omega) (by omega) (by decide) (kX4_init W4 (by omega) z4 e4 t1) (fun v7 h7 G7 f7 q7 => ?_)
      have W7 := f7.1
      have s7 := f7.2.1
      have s7' := f7.2.2.1
      have u7 := f7.2.2.2.1
      have ea7 := (f7.2.2.2.2.2 a0 (by omega) (by omega) (by rw [z]; simp)).trans ea4
      have za7 : (G7 a0).1 = 0 := by rw [f7.2.2.2.2.1 a0 (by omega) (by omega)]; exact z
      have t7 := tg_up f7 W4 t (by decide) (tg_z t (by decide) z4)
      have tl7 := tg_upl f7 W4 t (by decide) (tg_z t (by decide) z4)
      have t17 := tg_up f7 W4 t1 (by decide) (tg_z t1 (by decide) z4)
      have hf7 := fa_m (fA_m f7 W4 z4) (by decide) hf
      refine k_A t7 (by decide) (w_sR W7 t7 (by decide) (by decide) rfl (by omega) (by omega) (tN_s q7)) (fun h8 o8 _ => ?_)
      have s8 := o8.2.1
      have u8 := o8.2.2.1
      have ea8 := (o8.2.2.2 a0 (tg_z t7 (by decide) za7).symm).trans ea7
      refine k_add (by omega) (by omega) (fun x9 q9 => ?_)
      exact ih G7 a0 a1 x9 h8 N M1 M2 vs ps o8.1 (by omega) ha za7 ea8 hf7 hv t7 (by omega) t17 (by omega) (by omega) (by omega) (by omega) (by omega)

-- fX6_init
set_option maxHeartbeats 4000000 in
theorem kX6_init {G : GT} {a0 : Nat} {h : sm_H} (Wh : Wf G h) (l_a0 : a0 < h.1) (z_a0 : (G a0).1 = 0) (e_a0 : h.2.2 a0 = some (.inr (6, [.null, .null, .int 0, .int 0, .int 0, .int 0]))) : kJ (RA h.1 a0 [(27, 0)] (h.1 + 126) (h.2.1 + 1850) G h (fun (G : GT) (_ : Unit) (_ : sm_H) => tG G a0 7 0)) (fX6_init a0 h) := by
  have L0 : (0 : Int32).toInt = 0 := rfl
  have L1 : (1 : Int32).toInt = 1 := rfl
  have L5 : (5 : Int32).toInt = 5 := rfl
  have L40 : (40 : Int32).toInt = 40 := rfl
  have L1000 : (1000 : Int32).toInt = 1000 := rfl
  unfold fX6_init
  refine k_new (n := 2) Wh (by omega) rfl (fun h1_ sh1_ uh1_ eh1_ gh1_ Wh1_ zh1_ => ?_)
  have e2_ := (gh1_ _ (by omega)).trans e_a0
  refine k_cA (by omega) (by omega) (by first | decide | exact fun _ q => q) (kX0_init (ρ := 0) (R := 1000) Wh1_ (by omega) zh1_ eh1_  (by first | omega | assumption | decide) (by first | omega | assumption | decide)) (fun v4_ h3_ Gh3_ fh3_ qh3_ => ?_)
  have Wh3_ := fh3_.1
  have sh3_ := fh3_.2.1
  have th3_ := fh3_.2.2.1
  have uh3_ := fh3_.2.2.2.1
  have e5_ := (fh3_.2.2.2.2.2 _ (by omega) (by omega) (by rw [z_a0]; simp)).trans e2_
  have z6_ : (Gh3_ a0).1 = 0 := by rw [fh3_.2.2.2.2.1 _ (by omega) (by omega)]; exact z_a0
  refine k_raw Wh3_ z6_ (Or.inl rfl) e5_ (by first | decide | simp) (fun h7_ sh7_ uh7_ eh7_ gh7_ Wh7_ => ?_)
  have eh7_' : h7_.2.2 a0 = some (.inr (6, [sm_v (vR (some h.1)), .null, .int 0, .int 0, .int 0, .int 0])) := eh7_
  rw [if_neg (by decide)]
  try rw [show ((40 : Int32)).toNatClampNeg = 40 from rfl]
  refine k_nwa (ρ := 0) Wh7_ (by omega) (by decide) (by decide) (dk_R 7 (by decide)) (fun h8_ Gh8_ sh8_ uh8_ gh8_ kh8_ Wh8_ th8_ lh8_ => ?_)
  have t9_ := tg_nw kh8_ (Nat.ne_of_lt (tG_lt Wh7_ qh3_ (by decide))) qh3_
  have e10_ := (gh8_ _ (by omega)).trans eh7_'
  have z11_ : (Gh8_ a0).1 = 0 := by rw [kh8_ _ (by omega)]; exact z6_
  refine k_raw Wh8_ z11_ (Or.inl rfl) e10_ (by first | decide | simp) (fun h12_ sh12_ uh12_ eh12_ gh12_ Wh12_ => ?_)
  have eh12_' : h12_.2.2 a0 = some (.inr (6, [sm_v (vR (some h.1)), sm_v (vR (some h7_.1)), .int 0, .int 0, .int 0, .int 0])) := eh12_
  refine k_new (n := 3) Wh12_ (by omega) rfl (fun h13_ sh13_ uh13_ eh13_ gh13_ Wh13_ zh13_ => ?_)
  have e14_ := (gh13_ _ (by omega)).trans eh12_'
  refine k_cA (by omega) (by omega) (by first | decide | exact fun _ q => q) (kX10_init (R := 0) Wh13_ (by omega) zh13_ eh13_  (by first | omega | assumption | decide) (by first | omega | assumption | decide)) (fun v16_ h15_ Gh15_ fh15_ qh15_ => ?_)
  have Wh15_ := fh15_.1
  have sh15_ := fh15_.2.1
  have th15_ := fh15_.2.2.1
  have uh15_ := fh15_.2.2.2.1
  have t17_ := tg_up fh15_ Wh13_ t9_ (by decide) (tg_z t9_ (by decide) zh13_)
  have t18_ := tg_up fh15_ Wh13_ th8_ (by decide) (tg_z th8_ (by decide) zh13_)
  have := tg_upl fh15_ Wh13_ th8_ (by decide) (tg_z th8_ (by decide) zh13_)
  have e19_ := (fh15_.2.2.2.2.2 _ (by omega) (by omega) (by rw [z11_]; simp)).trans e14_
  have z20_ : (Gh15_ a0).1 = 0 := by rw [fh15_.2.2.2.2.1 _ (by omega) (by omega)]; exact z11_
  exact kX6_init_39 _ _ _ _ _ _ _ _ _ _ _ Wh15_ (by omega) (by omega) z20_ e19_ ⟨⟨some h.1, rfl, fun _ => by simp, tN_s t17_⟩, ⟨some h7_.1, rfl, fun _ => by simp, tN_s t18_⟩, ⟨_, rfl, by first | decide | (rcases p0_ with rfl | rfl <;> decide), by first | decide | (rcases p0_ with rfl | rfl <;> decide)⟩, ⟨_, rfl, i_lo _, i_hi _⟩, ⟨_, rfl, i_lo _, i_hi _⟩, ⟨_, rfl, i_lo _, i_hi _⟩, trivial⟩ rfl t18_ (by omega) qh15_ (by first | omega | decide) (by first | omega | decide) (by simp only [sm_fuel_eq]; omega) (by omega) (by omega)

-- fX7_init
set_option maxHeartbeats 4000000 in
theorem kX7_init {G : GT} {r_a1 : Nat} {a0 : Nat} {a1 : Nat} {h : sm_H} (Wh : Wf G h) (l_a0 : a0 < h.1) (z_a0 : (G a0).1 = 0) (e_a0 : h.2.2 a0 = some (.inr (7, [.null, .null, .null, .null, .int 0, .int 0]))) (t_a1 : tG G a1 1 r_a1) : kJ (RA h.1 a0 [(1, 0), (21, 0)] (h.1 + 4) (h.2.1 + 40) G h (fun (G : GT) (_ : Unit) (_ : sm_H) => tG G a0 8 0)) (fX7_init a0 (some a1) h) := by
  have L0 : (0 : Int32).toInt = 0 := rfl
  have L1 : (1 : Int32).toInt = 1 := rfl
  have L6 : (6 : Int32).toInt = 6 := rfl
  have L16 : (16 : Int32).toInt = 16 := rfl
  unfold fX7_init
  refine k_new (n := 2) Wh (by omega) rfl (fun h1_ sh1_ uh1_ eh1_ gh1_ Wh1_ zh1_ => ?_)
  have e2_ := (gh1_ _ (by omega)).trans e_a0
  refine k_cA (by omega) (by omega) (by first | decide | exact fun _ q => q) (kX0_init (ρ := 0) (R := 16) Wh1_ (by omega) zh1_ eh1_  (by first | omega | assumption | decide) (by first | omega | assumption | decide)) (fun v4_ h3_ Gh3_ fh3_ qh3_ => ?_)
  have Wh3_ := fh3_.1
  have sh3_ := fh3_.2.1
  have th3_ := fh3_.2.2.1
  have uh3_ := fh3_.2.2.2.1
  have t5_ := tg_up fh3_ Wh1_ t_a1 (by decide) (tg_z t_a1 (by decide) zh1_)
  have e6_ := (fh3_.2.2.2.2.2 _ (by omega) (by omega) (by rw [z_a0]; simp)).trans e2_
  have z7_ : (Gh3_ a0).1 = 0 := by rw [fh3_.2.2.2.2.1 _ (by omega) (by omega)]; exact z_a0
  refine k_raw Wh3_ z7_ (Or.inl rfl) e6_ (by first | decide | simp) (fun h8_ sh8_ uh8_ eh8_ gh8_ Wh8_ => ?_)
  have eh8_' : h8_.2.2 a0 = some (.inr (7, [sm_v (vR (some h.1)), .null, .null, .null, .int 0, .int 0])) := eh8_
  rw [if_neg (by decide)]
  try rw [show ((6 : Int32)).toNatClampNeg = 6 from rfl]
  refine k_nwa (ρ := 0) Wh8_ (by omega) (by decide) (by decide) (dk_R 4 (by decide)) (fun h9_ Gh9_ sh9_ uh9_ gh9_ kh9_ Wh9_ th9_ lh9_ => ?_)
  have t10_ := tg_nw kh9_ (Nat.ne_of_lt (tG_lt Wh8_ t5_ (by decide))) t5_
  have t11_ := tg_nw kh9_ (Nat.ne_of_lt (tG_lt Wh8_ qh3_ (by decide))) qh3_
  have e12_ := (gh9_ _ (by omega)).trans eh8_'
  have z13_ : (Gh9_ a0).1 = 0 := by rw [kh9_ _ (by omega)]; exact z7_
  refine k_raw Wh9_ z13_ (Or.inl rfl) e12_ (by first | decide | simp) (fun h14_ sh14_ uh14_ eh14_ gh14_ Wh14_ => ?_)
  have eh14_' : h14_.2.2 a0 = some (.inr (7, [sm_v (vR (some h.1)), sm_v (vR (some h8_.1)), .null, .null, .int 0, .int 0])) := eh14_
  rw [if_neg (by decide)]
  try rw [show ((16 : Int32)).toNatClampNeg = 16 from rfl]
  refine k_nwa (ρ := 0) Wh14_ (by omega) (by decide) (by decide) dk_I (fun h15_ Gh15_ sh15_ uh15_ gh15_ kh15_ Wh15_ th15_ lh15_ => ?_)
  have t16_ := tg_nw kh15_ (Nat.ne_of_lt (tG_lt Wh14_ t10_ (by decide))) t10_
  have t17_ := tg_nw kh15_ (Nat.ne_of_lt (tG_lt Wh14_ t11_ (by decide))) t11_
  have t18_ := tg_nw kh15_ (Nat.ne_of_lt (tG_lt Wh14_ th9_ (by decide))) th9_
  have := congrArg (fun z => z.2.1) (kh15_ _ (Nat.ne_of_lt (tG_lt Wh14_ th9_ (by decide))))
  try simp only at this
  have e19_ := (gh15_ _ (by omega)).trans eh14_'
  have z20_ : (Gh15_ a0).1 = 0 := by rw [kh15_ _ (by omega)]; exact z13_
  refine k_raw Wh15_ z20_ (Or.inl rfl) e19_ (by first | decide | simp) (fun h21_ sh21_ uh21_ eh21_ gh21_ Wh21_ => ?_)
  have eh21_' : h21_.2.2 a0 = some (.inr (7, [sm_v (vR (some h.1)), sm_v (vR (some h8_.1)), sm_v (vR (some h14_.1)), .null, .int 0, .int 0])) := eh21_
  refine k_kR (x := some h.1) (by rw [pu_get eh21_']; rfl) ?_
  refine k_obj Wh21_ t17_ (by decide) ?_
  refine k_cWA (kX0_copy Wh21_ t17_ t16_) (by first | decide | exact fun _ q => q) (fun v22_ h23_ fh23_ qv22_ => ?_)
  have Wh23_ := fh23_.1
  have sh23_ := fh23_.2.1
  have uh23_ := fh23_.2.2.1
  have e24_ := (fh23_.2.2.2 _ (by rw [z20_]; simp)).trans eh21_'
  exact k_rN (ci := 7) (r := 0) Wh23_ z20_ (by omega) (by decide) e24_ ⟨⟨some h.1, rfl, fun _ => by simp, tN_s t17_⟩, ⟨some h8_.1, rfl, fun _ => by simp, tN_s t18_⟩, ⟨some h14_.1, rfl, fun _ => by simp, tN_s th15_⟩, ⟨none, rfl, fun q => absurd q (by decide), tN_n⟩, ⟨_, rfl, i_lo _, i_hi _⟩, ⟨_, rfl, i_lo _, i_hi _⟩, trivial⟩ (by omega) (by omega) (fun _ _ t _ => t)

-- fX8_init_98
set_option maxHeartbeats 4000000 in
theorem kX8_init_98 : ∀ (n : Nat) (G : GT) (a0 : Nat) (a2 : Int32) (a9 : Int32) (a10 : Int32) (h : sm_H) (N M1 M2 : Nat) (vs : List Value) (ps : Nat), Wf G h → N ≤ h.1 → a0 < N → (G a0).1 = 0 → h.2.2 a0 = some (.inr (8, vs)) → fa G 0 (FTs 9) vs → vs[6]? = some (.ref ps) → tG G ps 28 0 → (G ps).2.1 ≤ 16 → 0 ≤ a9.toInt → a9.toInt ≤ 40 → 0 ≤ a10.toInt → a10.toInt ≤ 16 → 16 - a10.toInt < (n : Int) → (h.1 : Int) + 3 * (16 - a10.toInt) ≤ (M1 : Int) → (h.2.1 : Int) + 45 * (16 - a10.toInt) ≤ (M2 : Int) → kJ (RA N a0 [(1, 0), (11, 0), (21, 0), (28, 0)] M1 M2 G h (fun (G : GT) (_ : Unit) (_ : sm_H) => tG G a0 9 0)) (fX8_init_98 n a0 a2 a9 a10 h) := by
  have L1 : (1 : Int32).toInt = 1 := rfl
  have L5 : (5 : Int32).toInt = 5 := rfl
  have L40 : (40 : Int32).toInt = 40 := rfl
  intro n
  induction n with
  | zero => intro G a0 a2 a9 a10 h N M1 M2 vs ps W hN ha z e hf hv t hl p0 p1 c0 c1 m m1 m2; exfalso; omega
  | succ n ih =>
    intro G a0 a2 a9 a10 h N M1 M2 vs ps W hN ha z e hf hv t hl p0 p1 c0 c1 m m1 m2
    unfold fX8_init_98
    refine k_kR (x := some ps) (by rw [pu_get e, hv]; rfl) ?_
    refine k_len (B := 1200) W t rfl (fun x2 l2 u2 => ?_)
    refine k_le (fun c => ?_) (fun c => ?_)
    · exact k_rN (ci := 8) (r := 0) W z (by omega) (by decide) e hf (by omega) (by omega) (fun _ _ t _ => t)
    · skip
      refine k_new (n := 3) W (by omega) rfl (fun h3 s3 u3 e3 g3 W3 z3 => ?_)
      have ea3 := (g3 a0 (by omega)).trans e
      refine k_cA (by omega) (by omega) (by decide) (kX10_init (R := 40) W3 (by omega) z3 e3 (by omega) (by omega)) (fun v h4 G4 f4 q4 => ?_)
      have W4 := f4.1
      have s4 := f4.2.1
      have s4' := f4.2.2.1
      have u4 := f4.2.2.2.1
      have ea4 := (f4.2.2.2.2.2 a0 (by omega) (by omega) (by rw [z]; simp)).trans ea3
      have za4 : (G4 a0).1 = 0 := by rw [f4.2.2.2.2.1 a0 (by omega) (by omega)]; exact z
      have t4 := tg_up f4 W3 t (by decide) (tg_z t (by decide) z3)
      have tl4 := tg_upl f4 W3 t (by decide) (tg_z t (by decide) z3)
      have hf4 := fa_m (fA_m f4 W3 z3) (by decide) hf
      refine k_obj W4 q4 (by decide) ?_
      refine k_cWA (kX10_becomeFirst W4 q4) (by decide) (fun v5 h5 f5 _ => ?_)
      have W5 := f5.1
      have s5 := f5.2.1
      have u5 := f5.2.2.1
      have ea5 := (f5.2.2.2 a0 (by rw [za4]; simp)).trans ea4
      refine k_kR (x := some ps) (by rw [pu_get ea5, hv]; rfl) ?_
      refine k_A t4 (by decide) (w_sR W5 t4 (by decide) (by decide) rfl (by omega) (by omega) (tN_s q4)) (fun h7 o7 _ => ?_)
      have s7 := o7.2.1
      have u7 := o7.2.2.1
      have ea7 := (o7.2.2.2 a0 (tg_z t4 (by decide) za4).symm).trans ea5
      refine k_add (by omega) (by omega) (fun x8 q8 => ?_)
      exact ih G4 a0 a2 a9 x8 h7 N M1 M2 vs ps o7.1 (by omega) ha za4 ea7 hf4 hv t4 (by omega) p0 p1 (by omega) (by omega) (by omega) (by omega) (by omega)
