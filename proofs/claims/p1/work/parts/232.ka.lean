-- fX8_init
set_option maxHeartbeats 4000000 in
theorem kX8_init {G : GT} {r_a1 : Nat} {a0 : Nat} {a1 : Nat} {a2 : Int32} {a3 : Int32} {a4 : Int64} {a6 : Int64} {a8 : Option Nat} {h : sm_H} (Wh : Wf G h) (l_a0 : a0 < h.1) (z_a0 : (G a0).1 = 0) (e_a0 : h.2.2 a0 = some (.inr (8, [.null, .int 0, .int 0, .long 0, .long 0, .null, .null]))) (t_a1 : tG G a1 1 r_a1) (t_a8 : tN G a8 8 0) : kJ (RA h.1 a0 [(1, 0), (11, 0), (21, 0), (28, 0)] (h.1 + 51) (h.2.1 + 754) G h (fun (G : GT) (_ : Unit) (_ : sm_H) => tG G a0 9 0)) (fX8_init a0 (some a1) a2 a3 a4 a6 a8 h) := by
  have L0 : (0 : Int32).toInt = 0 := rfl
  have L1 : (1 : Int32).toInt = 1 := rfl
  have L4 : (4 : Int32).toInt = 4 := rfl
  have L6 : (6 : Int32).toInt = 6 := rfl
  have L16 : (16 : Int32).toInt = 16 := rfl
  have L40 : (40 : Int32).toInt = 40 := rfl
  unfold fX8_init
  refine k_new (n := 2) Wh (by omega) rfl (fun h1_ sh1_ uh1_ eh1_ gh1_ Wh1_ zh1_ => ?_)
  have e2_ := (gh1_ _ (by omega)).trans e_a0
  refine k_cA (by omega) (by omega) (by first | decide | exact fun _ q => q) (kX0_init (ρ := 0) (R := 16) Wh1_ (by omega) zh1_ eh1_  (by first | omega | assumption | decide) (by first | omega | assumption | decide)) (fun v4_ h3_ Gh3_ fh3_ qh3_ => ?_)
  have Wh3_ := fh3_.1
  have sh3_ := fh3_.2.1
  have th3_ := fh3_.2.2.1
  have uh3_ := fh3_.2.2.2.1
  have t5_ := tg_up fh3_ Wh1_ t_a1 (by decide) (tg_z t_a1 (by decide) zh1_)
  have t6_ := tN_m (fA_m fh3_ Wh1_ zh1_) (by decide) t_a8
  have e7_ := (fh3_.2.2.2.2.2 _ (by omega) (by omega) (by rw [z_a0]; simp)).trans e2_
  have z8_ : (Gh3_ a0).1 = 0 := by rw [fh3_.2.2.2.2.1 _ (by omega) (by omega)]; exact z_a0
  refine k_raw Wh3_ z8_ (Or.inl rfl) e7_ (by first | decide | simp) (fun h9_ sh9_ uh9_ eh9_ gh9_ Wh9_ => ?_)
  have eh9_' : h9_.2.2 a0 = some (.inr (8, [sm_v (vR (some h.1)), .int 0, .int 0, .long 0, .long 0, .null, .null])) := eh9_
  refine k_kR (x := some h.1) (by rw [pu_get eh9_']; rfl) ?_
  refine k_obj Wh9_ qh3_ (by decide) ?_
  refine k_cWA (kX0_copy Wh9_ qh3_ t5_) (by first | decide | exact fun _ q => q) (fun v10_ h11_ fh11_ qv10_ => ?_)
  have Wh11_ := fh11_.1
  have sh11_ := fh11_.2.1
  have uh11_ := fh11_.2.2.1
  have e12_ := (fh11_.2.2.2 _ (by rw [z8_]; simp)).trans eh9_'
  refine k_raw Wh11_ z8_ (Or.inl rfl) e12_ (by first | decide | simp) (fun h13_ sh13_ uh13_ eh13_ gh13_ Wh13_ => ?_)
  have eh13_' : h13_.2.2 a0 = some (.inr (8, [sm_v (vR (some h.1)), sm_v (vI a2), .int 0, .long 0, .long 0, .null, .null])) := eh13_
  refine k_raw Wh13_ z8_ (Or.inl rfl) eh13_' (by first | decide | simp) (fun h14_ sh14_ uh14_ eh14_ gh14_ Wh14_ => ?_)
  have eh14_' : h14_.2.2 a0 = some (.inr (8, [sm_v (vR (some h.1)), sm_v (vI a2), sm_v (vI a3), .long 0, .long 0, .null, .null])) := eh14_
  refine k_raw Wh14_ z8_ (Or.inl rfl) eh14_' (by first | decide | simp) (fun h15_ sh15_ uh15_ eh15_ gh15_ Wh15_ => ?_)
  have eh15_' : h15_.2.2 a0 = some (.inr (8, [sm_v (vR (some h.1)), sm_v (vI a2), sm_v (vI a3), sm_v (vJ a4), .long 0, .null, .null])) := eh15_
  refine k_raw Wh15_ z8_ (Or.inl rfl) eh15_' (by first | decide | simp) (fun h16_ sh16_ uh16_ eh16_ gh16_ Wh16_ => ?_)
  have eh16_' : h16_.2.2 a0 = some (.inr (8, [sm_v (vR (some h.1)), sm_v (vI a2), sm_v (vI a3), sm_v (vJ a4), sm_v (vJ a6), .null, .null])) := eh16_
  refine k_raw Wh16_ z8_ (Or.inl rfl) eh16_' (by first | decide | simp) (fun h17_ sh17_ uh17_ eh17_ gh17_ Wh17_ => ?_)
  have eh17_' : h17_.2.2 a0 = some (.inr (8, [sm_v (vR (some h.1)), sm_v (vI a2), sm_v (vI a3), sm_v (vJ a4), sm_v (vJ a6), sm_v (vR a8), .null])) := eh17_
  rcases a8 with _ | a8s
  · rw [if_pos rfl]
    unfold fX8_init_65
    rw [if_neg (nw_ok (by omega) (by omega))]
    try rw [show ((1 : Int32)).toNatClampNeg = 1 from rfl]
    refine k_nwa (ρ := 0) Wh17_ (by omega) (by decide) (by decide) (dk_R 8 (by decide)) (fun h18_ Gh18_ sh18_ uh18_ gh18_ kh18_ Wh18_ th18_ lh18_ => ?_)
    have t19_ := tg_nw kh18_ (Nat.ne_of_lt (tG_lt Wh17_ t5_ (by decide))) t5_
    have t20_ := tg_nw kh18_ (Nat.ne_of_lt (tG_lt Wh17_ qh3_ (by decide))) qh3_
    have e21_ := (gh18_ _ (by omega)).trans eh17_'
    have z22_ : (Gh18_ a0).1 = 0 := by rw [kh18_ _ (by omega)]; exact z8_
    refine k_raw Wh18_ z22_ (Or.inl rfl) e21_ (by first | decide | simp) (fun h23_ sh23_ uh23_ eh23_ gh23_ Wh23_ => ?_)
    have eh23_' : h23_.2.2 a0 = some (.inr (8, [sm_v (vR (some h.1)), sm_v (vI a2), sm_v (vI a3), sm_v (vJ a4), sm_v (vJ a6), sm_v (vR none), sm_v (vR (some h17_.1))])) := eh23_
    refine k_if (fun c24_ => ?_) (fun c24_ => ?_)
    · skip
      exact kX8_init_98 _ _ _ _ _ _ _ _ _ _ _ _ Wh23_ (by omega) (by omega) z22_ eh23_' ⟨⟨some h.1, rfl, fun _ => by simp, tN_s t20_⟩, ⟨_, rfl, i_lo _, i_hi _⟩, ⟨_, rfl, i_lo _, i_hi _⟩, ⟨_, rfl⟩, ⟨_, rfl⟩, ⟨none, rfl, fun q => absurd q (by decide), tN_n⟩, ⟨some h17_.1, rfl, fun _ => by simp, tN_s th18_⟩, trivial⟩ rfl th18_ (by omega) (by first | omega | decide) (by first | omega | decide) (by first | omega | decide) (by first | omega | decide) (by simp only [sm_fuel_eq]; omega) (by omega) (by omega)
    · skip
      refine k_if (fun c25_ => ?_) (fun c25_ => ?_)
      · skip
        exact kX8_init_98 _ _ _ _ _ _ _ _ _ _ _ _ Wh23_ (by omega) (by omega) z22_ eh23_' ⟨⟨some h.1, rfl, fun _ => by simp, tN_s t20_⟩, ⟨_, rfl, i_lo _, i_hi _⟩, ⟨_, rfl, i_lo _, i_hi _⟩, ⟨_, rfl⟩, ⟨_, rfl⟩, ⟨none, rfl, fun q => absurd q (by decide), tN_n⟩, ⟨some h17_.1, rfl, fun _ => by simp, tN_s th18_⟩, trivial⟩ rfl th18_ (by omega) (by first | omega | decide) (by first | omega | decide) (by first | omega | decide) (by first | omega | decide) (by simp only [sm_fuel_eq]; omega) (by omega) (by omega)
      · skip
        exact kX8_init_98 _ _ _ _ _ _ _ _ _ _ _ _ Wh23_ (by omega) (by omega) z22_ eh23_' ⟨⟨some h.1, rfl, fun _ => by simp, tN_s t20_⟩, ⟨_, rfl, i_lo _, i_hi _⟩, ⟨_, rfl, i_lo _, i_hi _⟩, ⟨_, rfl⟩, ⟨_, rfl⟩, ⟨none, rfl, fun q => absurd q (by decide), tN_n⟩, ⟨some h17_.1, rfl, fun _ => by simp, tN_s th18_⟩, trivial⟩ rfl th18_ (by omega) (by first | omega | decide) (by first | omega | decide) (by first | omega | decide) (by first | omega | decide) (by simp only [sm_fuel_eq]; omega) (by omega) (by omega)
  · rw [if_neg (by simp)]
    have ta8s := t6_ a8s rfl
    unfold fX8_init_65
    rw [if_neg (nw_ok (by omega) (by omega))]
    try rw [show ((16 : Int32)).toNatClampNeg = 16 from rfl]
    refine k_nwa (ρ := 0) Wh17_ (by omega) (by decide) (by decide) (dk_R 8 (by decide)) (fun h26_ Gh26_ sh26_ uh26_ gh26_ kh26_ Wh26_ th26_ lh26_ => ?_)
    have t27_ := tg_nw kh26_ (Nat.ne_of_lt (tG_lt Wh17_ t5_ (by decide))) t5_
    have t28_ := tg_nw kh26_ (Nat.ne_of_lt (tG_lt Wh17_ qh3_ (by decide))) qh3_
    have t29_ := tg_nw kh26_ (Nat.ne_of_lt (tG_lt Wh17_ ta8s (by decide))) ta8s
    have e30_ := (gh26_ _ (by omega)).trans eh17_'
    have z31_ : (Gh26_ a0).1 = 0 := by rw [kh26_ _ (by omega)]; exact z8_
    refine k_raw Wh26_ z31_ (Or.inl rfl) e30_ (by first | decide | simp) (fun h32_ sh32_ uh32_ eh32_ gh32_ Wh32_ => ?_)
    have eh32_' : h32_.2.2 a0 = some (.inr (8, [sm_v (vR (some h.1)), sm_v (vI a2), sm_v (vI a3), sm_v (vJ a4), sm_v (vJ a6), sm_v (vR (some a8s)), sm_v (vR (some h17_.1))])) := eh32_
    refine k_if (fun c33_ => ?_) (fun c33_ => ?_)
    · skip
      exact kX8_init_98 _ _ _ _ _ _ _ _ _ _ _ _ Wh32_ (by omega) (by omega) z31_ eh32_' ⟨⟨some h.1, rfl, fun _ => by simp, tN_s t28_⟩, ⟨_, rfl, i_lo _, i_hi _⟩, ⟨_, rfl, i_lo _, i_hi _⟩, ⟨_, rfl⟩, ⟨_, rfl⟩, ⟨some a8s, rfl, fun _ => by simp, tN_s t29_⟩, ⟨some h17_.1, rfl, fun _ => by simp, tN_s th26_⟩, trivial⟩ rfl th26_ (by omega) (by first | omega | decide) (by first | omega | decide) (by first | omega | decide) (by first | omega | decide) (by simp only [sm_fuel_eq]; omega) (by omega) (by omega)
    · skip
      refine k_if (fun c34_ => ?_) (fun c34_ => ?_)
      · skip
        exact kX8_init_98 _ _ _ _ _ _ _ _ _ _ _ _ Wh32_ (by omega) (by omega) z31_ eh32_' ⟨⟨some h.1, rfl, fun _ => by simp, tN_s t28_⟩, ⟨_, rfl, i_lo _, i_hi _⟩, ⟨_, rfl, i_lo _, i_hi _⟩, ⟨_, rfl⟩, ⟨_, rfl⟩, ⟨some a8s, rfl, fun _ => by simp, tN_s t29_⟩, ⟨some h17_.1, rfl, fun _ => by simp, tN_s th26_⟩, trivial⟩ rfl th26_ (by omega) (by first | omega | decide) (by first | omega | decide) (by first | omega | decide) (by first | omega | decide) (by simp only [sm_fuel_eq]; omega) (by omega) (by omega)
      · skip
        exact kX8_init_98 _ _ _ _ _ _ _ _ _ _ _ _ Wh32_ (by omega) (by omega) z31_ eh32_' ⟨⟨some h.1, rfl, fun _ => by simp, tN_s t28_⟩, ⟨_, rfl, i_lo _, i_hi _⟩, ⟨_, rfl, i_lo _, i_hi _⟩, ⟨_, rfl⟩, ⟨_, rfl⟩, ⟨some a8s, rfl, fun _ => by simp, tN_s t29_⟩, ⟨some h17_.1, rfl, fun _ => by simp, tN_s th26_⟩, trivial⟩ rfl th26_ (by omega) (by first | omega | decide) (by first | omega | decide) (by first | omega | decide) (by first | omega | decide) (by simp only [sm_fuel_eq]; omega) (by omega) (by omega)

-- fX9_init
set_option maxHeartbeats 4000000 in
theorem kX9_init {G : GT} {a0 : Nat} {h : sm_H} (Wh : Wf G h) (l_a0 : a0 < h.1) (z_a0 : (G a0).1 = 0) (e_a0 : h.2.2 a0 = some (.inr (9, [.null, .null, .null, .int 0, .int 0]))) : kJ (RA h.1 a0 [] (h.1 + 3) (h.2.1 + 84) G h (fun (G : GT) (_ : Unit) (_ : sm_H) => tG G a0 10 0)) (fX9_init a0 h) := by
  have L0 : (0 : Int32).toInt = 0 := rfl
  have L1 : (1 : Int32).toInt = 1 := rfl
  have L4 : (4 : Int32).toInt = 4 := rfl
  have L40 : (40 : Int32).toInt = 40 := rfl
  unfold fX9_init
  rw [if_neg (by decide)]
  try rw [show ((40 : Int32)).toNatClampNeg = 40 from rfl]
  refine k_nwa (ρ := 0) Wh (by omega) (by decide) (by decide) (dk_R 4 (by decide)) (fun h1_ Gh1_ sh1_ uh1_ gh1_ kh1_ Wh1_ th1_ lh1_ => ?_)
  have e2_ := (gh1_ _ (by omega)).trans e_a0
  have z3_ : (Gh1_ a0).1 = 0 := by rw [kh1_ _ (by omega)]; exact z_a0
  refine k_raw Wh1_ z3_ (Or.inl rfl) e2_ (by first | decide | simp) (fun h4_ sh4_ uh4_ eh4_ gh4_ Wh4_ => ?_)
  have eh4_' : h4_.2.2 a0 = some (.inr (9, [sm_v (vR (some h.1)), .null, .null, .int 0, .int 0])) := eh4_
  rw [if_neg (by decide)]
  try rw [show ((40 : Int32)).toNatClampNeg = 40 from rfl]
  refine k_nwa (ρ := 0) Wh4_ (by omega) (by decide) (by decide) (dk_R 4 (by decide)) (fun h5_ Gh5_ sh5_ uh5_ gh5_ kh5_ Wh5_ th5_ lh5_ => ?_)
  have t6_ := tg_nw kh5_ (Nat.ne_of_lt (tG_lt Wh4_ th1_ (by decide))) th1_
  have := congrArg (fun z => z.2.1) (kh5_ _ (Nat.ne_of_lt (tG_lt Wh4_ th1_ (by decide))))
  try simp only at this
  have e7_ := (gh5_ _ (by omega)).trans eh4_'
  have z8_ : (Gh5_ a0).1 = 0 := by rw [kh5_ _ (by omega)]; exact z3_
  refine k_raw Wh5_ z8_ (Or.inl rfl) e7_ (by first | decide | simp) (fun h9_ sh9_ uh9_ eh9_ gh9_ Wh9_ => ?_)
  have eh9_' : h9_.2.2 a0 = some (.inr (9, [sm_v (vR (some h.1)), sm_v (vR (some h4_.1)), .null, .int 0, .int 0])) := eh9_
  rw [if_neg (by decide)]
  try rw [show ((4 : Int32)).toNatClampNeg = 4 from rfl]
  refine k_nwa (ρ := 0) Wh9_ (by omega) (by decide) (by decide) (dk_R 5 (by decide)) (fun h10_ Gh10_ sh10_ uh10_ gh10_ kh10_ Wh10_ th10_ lh10_ => ?_)
  have t11_ := tg_nw kh10_ (Nat.ne_of_lt (tG_lt Wh9_ t6_ (by decide))) t6_
  have := congrArg (fun z => z.2.1) (kh10_ _ (Nat.ne_of_lt (tG_lt Wh9_ t6_ (by decide))))
  try simp only at this
  have t12_ := tg_nw kh10_ (Nat.ne_of_lt (tG_lt Wh9_ th5_ (by decide))) th5_
  have := congrArg (fun z => z.2.1) (kh10_ _ (Nat.ne_of_lt (tG_lt Wh9_ th5_ (by decide))))
  try simp only at this
  have e13_ := (gh10_ _ (by omega)).trans eh9_'
  have z14_ : (Gh10_ a0).1 = 0 := by rw [kh10_ _ (by omega)]; exact z8_
  refine k_raw Wh10_ z14_ (Or.inl rfl) e13_ (by first | decide | simp) (fun h15_ sh15_ uh15_ eh15_ gh15_ Wh15_ => ?_)
  have eh15_' : h15_.2.2 a0 = some (.inr (9, [sm_v (vR (some h.1)), sm_v (vR (some h4_.1)), sm_v (vR (some h9_.1)), .int 0, .int 0])) := eh15_
  exact k_rN (ci := 9) (r := 0) Wh15_ z14_ (by omega) (by decide) eh15_' ⟨⟨some h.1, rfl, fun _ => by simp, tN_s t11_⟩, ⟨some h4_.1, rfl, fun _ => by simp, tN_s t12_⟩, ⟨some h9_.1, rfl, fun _ => by simp, tN_s th10_⟩, ⟨_, rfl, by first | decide | (rcases p0_ with rfl | rfl <;> decide), by first | decide | (rcases p0_ with rfl | rfl <;> decide)⟩, ⟨_, rfl, by first | decide | (rcases p0_ with rfl | rfl <;> decide), by first | decide | (rcases p0_ with rfl | rfl <;> decide)⟩, trivial⟩ (by omega) (by omega) (fun _ _ t _ => t)

-- fX11_init
set_option maxHeartbeats 4000000 in
theorem kX11_init {G : GT} {a0 : Nat} {h : sm_H} (Wh : Wf G h) (l_a0 : a0 < h.1) (z_a0 : (G a0).1 = 0) (e_a0 : h.2.2 a0 = some (.inr (11, [.null, .null, .null, .null, .null, .null, .null, .null, .null, .null, .null, .null, .null, .null, .int 0, .int 0, .long 0]))) : kJ (RA h.1 a0 [(27, 0)] (h.1 + 400) (h.2.1 + 12000) G h (fun (G : GT) (_ : Unit) (_ : sm_H) => tG G a0 12 0)) (fX11_init a0 h) := by
  have L0 : (0 : Int32).toInt = 0 := rfl
  have L1 : (1 : Int32).toInt = 1 := rfl
  have L8 : (8 : Int32).toInt = 8 := rfl
  have L16 : (16 : Int32).toInt = 16 := rfl
  have L67 : (67 : Int32).toInt = 67 := rfl
  have L128 : (128 : Int32).toInt = 128 := rfl
  have L129 : (129 : Int32).toInt = 129 := rfl
  have L130 : (130 : Int32).toInt = 130 := rfl
  have L484 : (484 : Int32).toInt = 484 := rfl
  have L1200 : (1200 : Int32).toInt = 1200 := rfl
  unfold fX11_init
  refine k_new (n := 2) Wh (by omega) rfl (fun h1_ sh1_ uh1_ eh1_ gh1_ Wh1_ zh1_ => ?_)
  have e2_ := (gh1_ _ (by omega)).trans e_a0
  refine k_cA (by omega) (by omega) (by first | decide | exact fun _ q => q) (kX0_init (ρ := 1) (R := 1200) Wh1_ (by omega) zh1_ eh1_  (by first | omega | assumption | decide) (by first | omega | assumption | decide)) (fun v4_ h3_ Gh3_ fh3_ qh3_ => ?_)
  have Wh3_ := fh3_.1
  have sh3_ := fh3_.2.1
  have th3_ := fh3_.2.2.1
  have uh3_ := fh3_.2.2.2.1
  have e5_ := (fh3_.2.2.2.2.2 _ (by omega) (by omega) (by rw [z_a0]; simp)).trans e2_
  have z6_ : (Gh3_ a0).1 = 0 := by rw [fh3_.2.2.2.2.1 _ (by omega) (by omega)]; exact z_a0
  refine k_raw Wh3_ z6_ (Or.inl rfl) e5_ (by first | decide | simp) (fun h7_ sh7_ uh7_ eh7_ gh7_ Wh7_ => ?_)
  have eh7_' : h7_.2.2 a0 = some (.inr (11, [sm_v (vR (some h.1)), .null, .null, .null, .null, .null, .null, .null, .null, .null, .null, .null, .null, .null, .int 0, .int 0, .long 0])) := eh7_
  refine k_new (n := 2) Wh7_ (by omega) rfl (fun h8_ sh8_ uh8_ eh8_ gh8_ Wh8_ zh8_ => ?_)
  have e9_ := (gh8_ _ (by omega)).trans eh7_'
  refine k_cA (by omega) (by omega) (by first | decide | exact fun _ q => q) (kX0_init (ρ := 2) (R := 16) Wh8_ (by omega) zh8_ eh8_  (by first | omega | assumption | decide) (by first | omega | assumption | decide)) (fun v11_ h10_ Gh10_ fh10_ qh10_ => ?_)
  have Wh10_ := fh10_.1
  have sh10_ := fh10_.2.1
  have th10_ := fh10_.2.2.1
  have uh10_ := fh10_.2.2.2.1
  have t12_ := tg_up fh10_ Wh8_ qh3_ (by decide) (tg_z qh3_ (by decide) zh8_)
  have e13_ := (fh10_.2.2.2.2.2 _ (by omega) (by omega) (by rw [z6_]; simp)).trans e9_
  have z14_ : (Gh10_ a0).1 = 0 := by rw [fh10_.2.2.2.2.1 _ (by omega) (by omega)]; exact z6_
  refine k_raw Wh10_ z14_ (Or.inl rfl) e13_ (by first | decide | simp) (fun h15_ sh15_ uh15_ eh15_ gh15_ Wh15_ => ?_)
  have eh15_' : h15_.2.2 a0 = some (.inr (11, [sm_v (vR (some h.1)), sm_v (vR (some h7_.1)), .null, .null, .null, .null, .null, .null, .null, .null, .null, .null, .null, .null, .int 0, .int 0, .long 0])) := eh15_
  refine k_new (n := 5) Wh15_ (by omega) rfl (fun h16_ sh16_ uh16_ eh16_ gh16_ Wh16_ zh16_ => ?_)
  have e17_ := (gh16_ _ (by omega)).trans eh15_'
  refine k_cA (by omega) (by omega) (by first | decide | exact fun _ q => q) (kX9_init Wh16_ (by omega) zh16_ eh16_ ) (fun v19_ h18_ Gh18_ fh18_ qh18_ => ?_)
  have Wh18_ := fh18_.1
  have sh18_ := fh18_.2.1
  have th18_ := fh18_.2.2.1
  have uh18_ := fh18_.2.2.2.1
  have t20_ := tg_up fh18_ Wh16_ t12_ (by decide) (tg_z t12_ (by decide) zh16_)
  have t21_ := tg_up fh18_ Wh16_ qh10_ (by decide) (tg_z qh10_ (by decide) zh16_)
  have e22_ := (fh18_.2.2.2.2.2 _ (by omega) (by omega) (by rw [z14_]; simp)).trans e17_
  have z23_ : (Gh18_ a0).1 = 0 := by rw [fh18_.2.2.2.2.1 _ (by omega) (by omega)]; exact z14_
  refine k_raw Wh18_ z23_ (Or.inl rfl) e22_ (by first | decide | simp) (fun h24_ sh24_ uh24_ eh24_ gh24_ Wh24_ => ?_)
  have eh24_' : h24_.2.2 a0 = some (.inr (11, [sm_v (vR (some h.1)), sm_v (vR (some h7_.1)), sm_v (vR (some h15_.1)), .null, .null, .null, .null, .null, .null, .null, .null, .null, .null, .null, .int 0, .int 0, .long 0])) := eh24_
  rw [if_neg (by decide)]
  try rw [show ((8 : Int32)).toNatClampNeg = 8 from rfl]
  refine k_nwa (ρ := 0) Wh24_ (by omega) (by decide) (by decide) (dk_R 6 (by decide)) (fun h25_ Gh25_ sh25_ uh25_ gh25_ kh25_ Wh25_ th25_ lh25_ => ?_)
  have t26_ := tg_nw kh25_ (Nat.ne_of_lt (tG_lt Wh24_ t20_ (by decide))) t20_
  have t27_ := tg_nw kh25_ (Nat.ne_of_lt (tG_lt Wh24_ t21_ (by decide))) t21_
  have t28_ := tg_nw kh25_ (Nat.ne_of_lt (tG_lt Wh24_ qh18_ (by decide))) qh18_
  have e29_ := (gh25_ _ (by omega)).trans eh24_'
  have z30_ : (Gh25_ a0).1 = 0 := by rw [kh25_ _ (by omega)]; exact z23_
  refine k_raw Wh25_ z30_ (Or.inl rfl) e29_ (by first | decide | simp) (fun h31_ sh31_ uh31_ eh31_ gh31_ Wh31_ => ?_)
  have eh31_' : h31_.2.2 a0 = some (.inr (11, [sm_v (vR (some h.1)), sm_v (vR (some h7_.1)), sm_v (vR (some h15_.1)), sm_v (vR (some h24_.1)), .null, .null, .null, .null, .null, .null, .null, .null, .null, .null, .int 0, .int 0, .long 0])) := eh31_
  refine k_new (n := 9) Wh31_ (by omega) rfl (fun h32_ sh32_ uh32_ eh32_ gh32_ Wh32_ zh32_ => ?_)
  have e33_ := (gh32_ _ (by omega)).trans eh31_'
  refine k_cA (by omega) (by omega) (by first | decide | exact fun _ q => q) (kX3_init Wh32_ (by omega) zh32_ eh32_ ) (fun v35_ h34_ Gh34_ fh34_ qh34_ => ?_)
  have Wh34_ := fh34_.1
  have sh34_ := fh34_.2.1
  have th34_ := fh34_.2.2.1
  have uh34_ := fh34_.2.2.2.1
  have t36_ := tg_up fh34_ Wh32_ t26_ (by decide) (tg_z t26_ (by decide) zh32_)
  have t37_ := tg_up fh34_ Wh32_ t27_ (by decide) (tg_z t27_ (by decide) zh32_)
  have t38_ := tg_up fh34_ Wh32_ t28_ (by decide) (tg_z t28_ (by decide) zh32_)
  have t39_ := tg_up fh34_ Wh32_ th25_ (by decide) (tg_z th25_ (by decide) zh32_)
  have := tg_upl fh34_ Wh32_ th25_ (by decide) (tg_z th25_ (by decide) zh32_)
  have e40_ := (fh34_.2.2.2.2.2 _ (by omega) (by omega) (by rw [z30_]; simp)).trans e33_
  have z41_ : (Gh34_ a0).1 = 0 := by rw [fh34_.2.2.2.2.1 _ (by omega) (by omega)]; exact z30_
  refine k_raw Wh34_ z41_ (Or.inl rfl) e40_ (by first | decide | simp) (fun h42_ sh42_ uh42_ eh42_ gh42_ Wh42_ => ?_)
  have eh42_' : h42_.2.2 a0 = some (.inr (11, [sm_v (vR (some h.1)), sm_v (vR (some h7_.1)), sm_v (vR (some h15_.1)), sm_v (vR (some h24_.1)), sm_v (vR (some h31_.1)), .null, .null, .null, .null, .null, .null, .null, .null, .null, .int 0, .int 0, .long 0])) := eh42_
  refine k_new (n := 3) Wh42_ (by omega) rfl (fun h43_ sh43_ uh43_ eh43_ gh43_ Wh43_ zh43_ => ?_)
  have e44_ := (gh43_ _ (by omega)).trans eh42_'
  refine k_kR (x := some h.1) (by rw [pu_get e44_]; rfl) ?_
  refine k_cA (by omega) (by omega) (by first | decide | exact fun _ q => q) (kX5_init Wh43_ (by omega) zh43_ eh43_ t36_) (fun v46_ h45_ Gh45_ fh45_ qh45_ => ?_)
  have Wh45_ := fh45_.1
  have sh45_ := fh45_.2.1
  have th45_ := fh45_.2.2.1
  have uh45_ := fh45_.2.2.2.1
  have t47_ := tg_up fh45_ Wh43_ t36_ (by decide) (tg_z t36_ (by decide) zh43_)
  have t48_ := tg_up fh45_ Wh43_ t37_ (by decide) (tg_z t37_ (by decide) zh43_)
  have t49_ := tg_up fh45_ Wh43_ t38_ (by decide) (tg_z t38_ (by decide) zh43_)
  have t50_ := tg_up fh45_ Wh43_ t39_ (by decide) (tg_z t39_ (by decide) zh43_)
  have := tg_upl fh45_ Wh43_ t39_ (by decide) (tg_z t39_ (by decide) zh43_)
  have t51_ := tg_up fh45_ Wh43_ qh34_ (by decide) (tg_z qh34_ (by decide) zh43_)
  have e52_ := (fh45_.2.2.2.2.2 _ (by omega) (by omega) (by rw [z41_]; simp)).trans e44_
  have z53_ : (Gh45_ a0).1 = 0 := by rw [fh45_.2.2.2.2.1 _ (by omega) (by omega)]; exact z41_
  refine k_raw Wh45_ z53_ (Or.inl rfl) e52_ (by first | decide | simp) (fun h54_ sh54_ uh54_ eh54_ gh54_ Wh54_ => ?_)
  have eh54_' : h54_.2.2 a0 = some (.inr (11, [sm_v (vR (some h.1)), sm_v (vR (some h7_.1)), sm_v (vR (some h15_.1)), sm_v (vR (some h24_.1)), sm_v (vR (some h31_.1)), sm_v (vR (some h42_.1)), .null, .null, .null, .null, .null, .null, .null, .null, .int 0, .int 0, .long 0])) := eh54_
  refine k_new (n := 2) Wh54_ (by omega) rfl (fun h55_ sh55_ uh55_ eh55_ gh55_ Wh55_ zh55_ => ?_)
  have e56_ := (gh55_ _ (by omega)).trans eh54_'
  refine k_kR (x := some h15_.1) (by rw [pu_get e56_]; rfl) ?_
  refine k_kR (x := some h31_.1) (by rw [pu_get e56_]; rfl) ?_
  refine k_cA (by omega) (by omega) (by first | decide | exact fun _ q => q) (kX1_init Wh55_ (by omega) zh55_ eh55_ t49_ t51_) (fun v58_ h57_ Gh57_ fh57_ qh57_ => ?_)
  have Wh57_ := fh57_.1
  have sh57_ := fh57_.2.1
  have th57_ := fh57_.2.2.1
  have uh57_ := fh57_.2.2.2.1
  have t59_ := tg_up fh57_ Wh55_ t47_ (by decide) (tg_z t47_ (by decide) zh55_)
  have t60_ := tg_up fh57_ Wh55_ t48_ (by decide) (tg_z t48_ (by decide) zh55_)
  have t61_ := tg_up fh57_ Wh55_ t49_ (by decide) (tg_z t49_ (by decide) zh55_)
  have t62_ := tg_up fh57_ Wh55_ t50_ (by decide) (tg_z t50_ (by decide) zh55_)
  have := tg_upl fh57_ Wh55_ t50_ (by decide) (tg_z t50_ (by decide) zh55_)
  have t63_ := tg_up fh57_ Wh55_ t51_ (by decide) (tg_z t51_ (by decide) zh55_)
  have t64_ := tg_up fh57_ Wh55_ qh45_ (by decide) (tg_z qh45_ (by decide) zh55_)
  have e65_ := (fh57_.2.2.2.2.2 _ (by omega) (by omega) (by rw [z53_]; simp)).trans e56_
  have z66_ : (Gh57_ a0).1 = 0 := by rw [fh57_.2.2.2.2.1 _ (by omega) (by omega)]; exact z53_
  refine k_raw Wh57_ z66_ (Or.inl rfl) e65_ (by first | decide | simp) (fun h67_ sh67_ uh67_ eh67_ gh67_ Wh67_ => ?_)
  have eh67_' : h67_.2.2 a0 = some (.inr (11, [sm_v (vR (some h.1)), sm_v (vR (some h7_.1)), sm_v (vR (some h15_.1)), sm_v (vR (some h24_.1)), sm_v (vR (some h31_.1)), sm_v (vR (some h42_.1)), sm_v (vR (some h54_.1)), .null, .null, .null, .null, .null, .null, .null, .int 0, .int 0, .long 0])) := eh67_
  refine k_new (n := 6) Wh67_ (by omega) rfl (fun h68_ sh68_ uh68_ eh68_ gh68_ Wh68_ zh68_ => ?_)
  have e69_ := (gh68_ _ (by omega)).trans eh67_'
  refine k_cA (by omega) (by omega) (by first | decide | exact fun _ q => q) (kX6_init Wh68_ (by omega) zh68_ eh68_ ) (fun v71_ h70_ Gh70_ fh70_ qh70_ => ?_)
  have Wh70_ := fh70_.1
  have sh70_ := fh70_.2.1
  have th70_ := fh70_.2.2.1
  have uh70_ := fh70_.2.2.2.1
  have t72_ := tg_up fh70_ Wh68_ t59_ (by decide) (tg_z t59_ (by decide) zh68_)
  have t73_ := tg_up fh70_ Wh68_ t60_ (by decide) (tg_z t60_ (by decide) zh68_)
  have t74_ := tg_up fh70_ Wh68_ t61_ (by decide) (tg_z t61_ (by decide) zh68_)
  have t75_ := tg_up fh70_ Wh68_ t62_ (by decide) (tg_z t62_ (by decide) zh68_)
  have := tg_upl fh70_ Wh68_ t62_ (by decide) (tg_z t62_ (by decide) zh68_)
  have t76_ := tg_up fh70_ Wh68_ t63_ (by decide) (tg_z t63_ (by decide) zh68_)
  have t77_ := tg_up fh70_ Wh68_ t64_ (by decide) (tg_z t64_ (by decide) zh68_)
  have t78_ := tg_up fh70_ Wh68_ qh57_ (by decide) (tg_z qh57_ (by decide) zh68_)
  have e79_ := (fh70_.2.2.2.2.2 _ (by omega) (by omega) (by rw [z66_]; simp)).trans e69_
  have z80_ : (Gh70_ a0).1 = 0 := by rw [fh70_.2.2.2.2.1 _ (by omega) (by omega)]; exact z66_
  refine k_raw Wh70_ z80_ (Or.inl rfl) e79_ (by first | decide | simp) (fun h81_ sh81_ uh81_ eh81_ gh81_ Wh81_ => ?_)
  have eh81_' : h81_.2.2 a0 = some (.inr (11, [sm_v (vR (some h.1)), sm_v (vR (some h7_.1)), sm_v (vR (some h15_.1)), sm_v (vR (some h24_.1)), sm_v (vR (some h31_.1)), sm_v (vR (some h42_.1)), sm_v (vR (some h54_.1)), sm_v (vR (some h67_.1)), .null, .null, .null, .null, .null, .null, .int 0, .int 0, .long 0])) := eh81_
  rw [if_neg (by decide)]
  try rw [show ((8 : Int32)).toNatClampNeg = 8 from rfl]
  refine k_nwa (ρ := 0) Wh81_ (by omega) (by decide) (by decide) dk_I (fun h82_ Gh82_ sh82_ uh82_ gh82_ kh82_ Wh82_ th82_ lh82_ => ?_)
  have t83_ := tg_nw kh82_ (Nat.ne_of_lt (tG_lt Wh81_ t72_ (by decide))) t72_
  have t84_ := tg_nw kh82_ (Nat.ne_of_lt (tG_lt Wh81_ t73_ (by decide))) t73_
  have t85_ := tg_nw kh82_ (Nat.ne_of_lt (tG_lt Wh81_ t74_ (by decide))) t74_
  have t86_ := tg_nw kh82_ (Nat.ne_of_lt (tG_lt Wh81_ t75_ (by decide))) t75_
  have := congrArg (fun z => z.2.1) (kh82_ _ (Nat.ne_of_lt (tG_lt Wh81_ t75_ (by decide))))
  try simp only at this
  have t87_ := tg_nw kh82_ (Nat.ne_of_lt (tG_lt Wh81_ t76_ (by decide))) t76_
  have t88_ := tg_nw kh82_ (Nat.ne_of_lt (tG_lt Wh81_ t77_ (by decide))) t77_
  have t89_ := tg_nw kh82_ (Nat.ne_of_lt (tG_lt Wh81_ t78_ (by decide))) t78_
  have t90_ := tg_nw kh82_ (Nat.ne_of_lt (tG_lt Wh81_ qh70_ (by decide))) qh70_
  have e91_ := (gh82_ _ (by omega)).trans eh81_'
  have z92_ : (Gh82_ a0).1 = 0 := by rw [kh82_ _ (by omega)]; exact z80_
  refine k_raw Wh82_ z92_ (Or.inl rfl) e91_ (by first | decide | simp) (fun h93_ sh93_ uh93_ eh93_ gh93_ Wh93_ => ?_)
  have eh93_' : h93_.2.2 a0 = some (.inr (11, [sm_v (vR (some h.1)), sm_v (vR (some h7_.1)), sm_v (vR (some h15_.1)), sm_v (vR (some h24_.1)), sm_v (vR (some h31_.1)), sm_v (vR (some h42_.1)), sm_v (vR (some h54_.1)), sm_v (vR (some h67_.1)), sm_v (vR (some h81_.1)), .null, .null, .null, .null, .null, .int 0, .int 0, .long 0])) := eh93_
  refine k_new (n := 2) Wh93_ (by omega) rfl (fun h94_ sh94_ uh94_ eh94_ gh94_ Wh94_ zh94_ => ?_)
  have e95_ := (gh94_ _ (by omega)).trans eh93_'
  refine k_cA (by omega) (by omega) (by first | decide | exact fun _ q => q) (kX0_init (ρ := 0) (R := 16) Wh94_ (by omega) zh94_ eh94_  (by first | omega | assumption | decide) (by first | omega | assumption | decide)) (fun v97_ h96_ Gh96_ fh96_ qh96_ => ?_)
  have Wh96_ := fh96_.1
  have sh96_ := fh96_.2.1
  have th96_ := fh96_.2.2.1
  have uh96_ := fh96_.2.2.2.1
  have t98_ := tg_up fh96_ Wh94_ t83_ (by decide) (tg_z t83_ (by decide) zh94_)
  have t99_ := tg_up fh96_ Wh94_ t84_ (by decide) (tg_z t84_ (by decide) zh94_)
  have t100_ := tg_up fh96_ Wh94_ t85_ (by decide) (tg_z t85_ (by decide) zh94_)
  have t101_ := tg_up fh96_ Wh94_ t86_ (by decide) (tg_z t86_ (by decide) zh94_)
  have := tg_upl fh96_ Wh94_ t86_ (by decide) (tg_z t86_ (by decide) zh94_)
  have t102_ := tg_up fh96_ Wh94_ t87_ (by decide) (tg_z t87_ (by decide) zh94_)
  have t103_ := tg_up fh96_ Wh94_ t88_ (by decide) (tg_z t88_ (by decide) zh94_)
  have t104_ := tg_up fh96_ Wh94_ t89_ (by decide) (tg_z t89_ (by decide) zh94_)
  have t105_ := tg_up fh96_ Wh94_ t90_ (by decide) (tg_z t90_ (by decide) zh94_)
  have t106_ := tg_up fh96_ Wh94_ th82_ (by decide) (tg_z th82_ (by decide) zh94_)
  have := tg_upl fh96_ Wh94_ th82_ (by decide) (tg_z th82_ (by decide) zh94_)
  have e107_ := (fh96_.2.2.2.2.2 _ (by omega) (by omega) (by rw [z92_]; simp)).trans e95_
  have z108_ : (Gh96_ a0).1 = 0 := by rw [fh96_.2.2.2.2.1 _ (by omega) (by omega)]; exact z92_
  refine k_raw Wh96_ z108_ (Or.inl rfl) e107_ (by first | decide | simp) (fun h109_ sh109_ uh109_ eh109_ gh109_ Wh109_ => ?_)
  have eh109_' : h109_.2.2 a0 = some (.inr (11, [sm_v (vR (some h.1)), sm_v (vR (some h7_.1)), sm_v (vR (some h15_.1)), sm_v (vR (some h24_.1)), sm_v (vR (some h31_.1)), sm_v (vR (some h42_.1)), sm_v (vR (some h54_.1)), sm_v (vR (some h67_.1)), sm_v (vR (some h81_.1)), sm_v (vR (some h93_.1)), .null, .null, .null, .null, .int 0, .int 0, .long 0])) := eh109_
  refine k_new (n := 3) Wh109_ (by omega) rfl (fun h110_ sh110_ uh110_ eh110_ gh110_ Wh110_ zh110_ => ?_)
  have e111_ := (gh110_ _ (by omega)).trans eh109_'
  refine k_cA (by omega) (by omega) (by first | decide | exact fun _ q => q) (kX10_init (R := 0) Wh110_ (by omega) zh110_ eh110_  (by first | omega | assumption | decide) (by first | omega | assumption | decide)) (fun v113_ h112_ Gh112_ fh112_ qh112_ => ?_)
  have Wh112_ := fh112_.1
  have sh112_ := fh112_.2.1
  have th112_ := fh112_.2.2.1
  have uh112_ := fh112_.2.2.2.1
  have t114_ := tg_up fh112_ Wh110_ t98_ (by decide) (tg_z t98_ (by decide) zh110_)
  have t115_ := tg_up fh112_ Wh110_ t99_ (by decide) (tg_z t99_ (by decide) zh110_)
  have t116_ := tg_up fh112_ Wh110_ t100_ (by decide) (tg_z t100_ (by decide) zh110_)
  have t117_ := tg_up fh112_ Wh110_ t101_ (by decide) (tg_z t101_ (by decide) zh110_)
  have := tg_upl fh112_ Wh110_ t101_ (by decide) (tg_z t101_ (by decide) zh110_)
  have t118_ := tg_up fh112_ Wh110_ t102_ (by decide) (tg_z t102_ (by decide) zh110_)
  have t119_ := tg_up fh112_ Wh110_ t103_ (by decide) (tg_z t103_ (by decide) zh110_)
  have t120_ := tg_up fh112_ Wh110_ t104_ (by decide) (tg_z t104_ (by decide) zh110_)
  have t121_ := tg_up fh112_ Wh110_ t105_ (by decide) (tg_z t105_ (by decide) zh110_)
  have t122_ := tg_up fh112_ Wh110_ t106_ (by decide) (tg_z t106_ (by decide) zh110_)
  have := tg_upl fh112_ Wh110_ t106_ (by decide) (tg_z t106_ (by decide) zh110_)
  have t123_ := tg_up fh112_ Wh110_ qh96_ (by decide) (tg_z qh96_ (by decide) zh110_)
  have e124_ := (fh112_.2.2.2.2.2 _ (by omega) (by omega) (by rw [z108_]; simp)).trans e111_
  have z125_ : (Gh112_ a0).1 = 0 := by rw [fh112_.2.2.2.2.1 _ (by omega) (by omega)]; exact z108_
  refine k_raw Wh112_ z125_ (Or.inl rfl) e124_ (by first | decide | simp) (fun h126_ sh126_ uh126_ eh126_ gh126_ Wh126_ => ?_)
  have eh126_' : h126_.2.2 a0 = some (.inr (11, [sm_v (vR (some h.1)), sm_v (vR (some h7_.1)), sm_v (vR (some h15_.1)), sm_v (vR (some h24_.1)), sm_v (vR (some h31_.1)), sm_v (vR (some h42_.1)), sm_v (vR (some h54_.1)), sm_v (vR (some h67_.1)), sm_v (vR (some h81_.1)), sm_v (vR (some h93_.1)), sm_v (vR (some h109_.1)), .null, .null, .null, .int 0, .int 0, .long 0])) := eh126_
  refine k_new (n := 3) Wh126_ (by omega) rfl (fun h127_ sh127_ uh127_ eh127_ gh127_ Wh127_ zh127_ => ?_)
  have e128_ := (gh127_ _ (by omega)).trans eh126_'
  refine k_cA (by omega) (by omega) (by first | decide | exact fun _ q => q) (kX10_init (R := 0) Wh127_ (by omega) zh127_ eh127_  (by first | omega | assumption | decide) (by first | omega | assumption | decide)) (fun v130_ h129_ Gh129_ fh129_ qh129_ => ?_)
  have Wh129_ := fh129_.1
  have sh129_ := fh129_.2.1
  have th129_ := fh129_.2.2.1
  have uh129_ := fh129_.2.2.2.1
  have t131_ := tg_up fh129_ Wh127_ t114_ (by decide) (tg_z t114_ (by decide) zh127_)
  have t132_ := tg_up fh129_ Wh127_ t115_ (by decide) (tg_z t115_ (by decide) zh127_)
  have t133_ := tg_up fh129_ Wh127_ t116_ (by decide) (tg_z t116_ (by decide) zh127_)
  have t134_ := tg_up fh129_ Wh127_ t117_ (by decide) (tg_z t117_ (by decide) zh127_)
  have := tg_upl fh129_ Wh127_ t117_ (by decide) (tg_z t117_ (by decide) zh127_)
  have t135_ := tg_up fh129_ Wh127_ t118_ (by decide) (tg_z t118_ (by decide) zh127_)
  have t136_ := tg_up fh129_ Wh127_ t119_ (by decide) (tg_z t119_ (by decide) zh127_)
  have t137_ := tg_up fh129_ Wh127_ t120_ (by decide) (tg_z t120_ (by decide) zh127_)
  have t138_ := tg_up fh129_ Wh127_ t121_ (by decide) (tg_z t121_ (by decide) zh127_)
  have t139_ := tg_up fh129_ Wh127_ t122_ (by decide) (tg_z t122_ (by decide) zh127_)
  have := tg_upl fh129_ Wh127_ t122_ (by decide) (tg_z t122_ (by decide) zh127_)
  have t140_ := tg_up fh129_ Wh127_ t123_ (by decide) (tg_z t123_ (by decide) zh127_)
  have t141_ := tg_up fh129_ Wh127_ qh112_ (by decide) (tg_z qh112_ (by decide) zh127_)
  have e142_ := (fh129_.2.2.2.2.2 _ (by omega) (by omega) (by rw [z125_]; simp)).trans e128_
  have z143_ : (Gh129_ a0).1 = 0 := by rw [fh129_.2.2.2.2.1 _ (by omega) (by omega)]; exact z125_
  refine k_raw Wh129_ z143_ (Or.inl rfl) e142_ (by first | decide | simp) (fun h144_ sh144_ uh144_ eh144_ gh144_ Wh144_ => ?_)
  have eh144_' : h144_.2.2 a0 = some (.inr (11, [sm_v (vR (some h.1)), sm_v (vR (some h7_.1)), sm_v (vR (some h15_.1)), sm_v (vR (some h24_.1)), sm_v (vR (some h31_.1)), sm_v (vR (some h42_.1)), sm_v (vR (some h54_.1)), sm_v (vR (some h67_.1)), sm_v (vR (some h81_.1)), sm_v (vR (some h93_.1)), sm_v (vR (some h109_.1)), sm_v (vR (some h126_.1)), .null, .null, .int 0, .int 0, .long 0])) := eh144_
  refine k_new (n := 3) Wh144_ (by omega) rfl (fun h145_ sh145_ uh145_ eh145_ gh145_ Wh145_ zh145_ => ?_)
  have e146_ := (gh145_ _ (by omega)).trans eh144_'
  refine k_cA (by omega) (by omega) (by first | decide | exact fun _ q => q) (kX10_init (R := 0) Wh145_ (by omega) zh145_ eh145_  (by first | omega | assumption | decide) (by first | omega | assumption | decide)) (fun v148_ h147_ Gh147_ fh147_ qh147_ => ?_)
  have Wh147_ := fh147_.1
  have sh147_ := fh147_.2.1
  have th147_ := fh147_.2.2.1
  have uh147_ := fh147_.2.2.2.1
  have t149_ := tg_up fh147_ Wh145_ t131_ (by decide) (tg_z t131_ (by decide) zh145_)
  have t150_ := tg_up fh147_ Wh145_ t132_ (by decide) (tg_z t132_ (by decide) zh145_)
  have t151_ := tg_up fh147_ Wh145_ t133_ (by decide) (tg_z t133_ (by decide) zh145_)
  have t152_ := tg_up fh147_ Wh145_ t134_ (by decide) (tg_z t134_ (by decide) zh145_)
  have := tg_upl fh147_ Wh145_ t134_ (by decide) (tg_z t134_ (by decide) zh145_)
  have t153_ := tg_up fh147_ Wh145_ t135_ (by decide) (tg_z t135_ (by decide) zh145_)
  have t154_ := tg_up fh147_ Wh145_ t136_ (by decide) (tg_z t136_ (by decide) zh145_)
  have t155_ := tg_up fh147_ Wh145_ t137_ (by decide) (tg_z t137_ (by decide) zh145_)
  have t156_ := tg_up fh147_ Wh145_ t138_ (by decide) (tg_z t138_ (by decide) zh145_)
  have t157_ := tg_up fh147_ Wh145_ t139_ (by decide) (tg_z t139_ (by decide) zh145_)
  have := tg_upl fh147_ Wh145_ t139_ (by decide) (tg_z t139_ (by decide) zh145_)
  have t158_ := tg_up fh147_ Wh145_ t140_ (by decide) (tg_z t140_ (by decide) zh145_)
  have t159_ := tg_up fh147_ Wh145_ t141_ (by decide) (tg_z t141_ (by decide) zh145_)
  have t160_ := tg_up fh147_ Wh145_ qh129_ (by decide) (tg_z qh129_ (by decide) zh145_)
  have e161_ := (fh147_.2.2.2.2.2 _ (by omega) (by omega) (by rw [z143_]; simp)).trans e146_
  have z162_ : (Gh147_ a0).1 = 0 := by rw [fh147_.2.2.2.2.1 _ (by omega) (by omega)]; exact z143_
  refine k_raw Wh147_ z162_ (Or.inl rfl) e161_ (by first | decide | simp) (fun h163_ sh163_ uh163_ eh163_ gh163_ Wh163_ => ?_)
  have eh163_' : h163_.2.2 a0 = some (.inr (11, [sm_v (vR (some h.1)), sm_v (vR (some h7_.1)), sm_v (vR (some h15_.1)), sm_v (vR (some h24_.1)), sm_v (vR (some h31_.1)), sm_v (vR (some h42_.1)), sm_v (vR (some h54_.1)), sm_v (vR (some h67_.1)), sm_v (vR (some h81_.1)), sm_v (vR (some h93_.1)), sm_v (vR (some h109_.1)), sm_v (vR (some h126_.1)), sm_v (vR (some h144_.1)), .null, .int 0, .int 0, .long 0])) := eh163_
  refine k_new (n := 3) Wh163_ (by omega) rfl (fun h164_ sh164_ uh164_ eh164_ gh164_ Wh164_ zh164_ => ?_)
  have e165_ := (gh164_ _ (by omega)).trans eh163_'
  refine k_cA (by omega) (by omega) (by first | decide | exact fun _ q => q) (kX10_init (R := 0) Wh164_ (by omega) zh164_ eh164_  (by first | omega | assumption | decide) (by first | omega | assumption | decide)) (fun v167_ h166_ Gh166_ fh166_ qh166_ => ?_)
  have Wh166_ := fh166_.1
  have sh166_ := fh166_.2.1
  have th166_ := fh166_.2.2.1
  have uh166_ := fh166_.2.2.2.1
  have t168_ := tg_up fh166_ Wh164_ t149_ (by decide) (tg_z t149_ (by decide) zh164_)
  have t169_ := tg_up fh166_ Wh164_ t150_ (by decide) (tg_z t150_ (by decide) zh164_)
  have t170_ := tg_up fh166_ Wh164_ t151_ (by decide) (tg_z t151_ (by decide) zh164_)
  have t171_ := tg_up fh166_ Wh164_ t152_ (by decide) (tg_z t152_ (by decide) zh164_)
  have := tg_upl fh166_ Wh164_ t152_ (by decide) (tg_z t152_ (by decide) zh164_)
  have t172_ := tg_up fh166_ Wh164_ t153_ (by decide) (tg_z t153_ (by decide) zh164_)
  have t173_ := tg_up fh166_ Wh164_ t154_ (by decide) (tg_z t154_ (by decide) zh164_)
  have t174_ := tg_up fh166_ Wh164_ t155_ (by decide) (tg_z t155_ (by decide) zh164_)
  have t175_ := tg_up fh166_ Wh164_ t156_ (by decide) (tg_z t156_ (by decide) zh164_)
  have t176_ := tg_up fh166_ Wh164_ t157_ (by decide) (tg_z t157_ (by decide) zh164_)
  have := tg_upl fh166_ Wh164_ t157_ (by decide) (tg_z t157_ (by decide) zh164_)
  have t177_ := tg_up fh166_ Wh164_ t158_ (by decide) (tg_z t158_ (by decide) zh164_)
  have t178_ := tg_up fh166_ Wh164_ t159_ (by decide) (tg_z t159_ (by decide) zh164_)
  have t179_ := tg_up fh166_ Wh164_ t160_ (by decide) (tg_z t160_ (by decide) zh164_)
  have t180_ := tg_up fh166_ Wh164_ qh147_ (by decide) (tg_z qh147_ (by decide) zh164_)
  have e181_ := (fh166_.2.2.2.2.2 _ (by omega) (by omega) (by rw [z162_]; simp)).trans e165_
  have z182_ : (Gh166_ a0).1 = 0 := by rw [fh166_.2.2.2.2.1 _ (by omega) (by omega)]; exact z162_
  refine k_raw Wh166_ z182_ (Or.inl rfl) e181_ (by first | decide | simp) (fun h183_ sh183_ uh183_ eh183_ gh183_ Wh183_ => ?_)
  have eh183_' : h183_.2.2 a0 = some (.inr (11, [sm_v (vR (some h.1)), sm_v (vR (some h7_.1)), sm_v (vR (some h15_.1)), sm_v (vR (some h24_.1)), sm_v (vR (some h31_.1)), sm_v (vR (some h42_.1)), sm_v (vR (some h54_.1)), sm_v (vR (some h67_.1)), sm_v (vR (some h81_.1)), sm_v (vR (some h93_.1)), sm_v (vR (some h109_.1)), sm_v (vR (some h126_.1)), sm_v (vR (some h144_.1)), sm_v (vR (some h163_.1)), .int 0, .int 0, .long 0])) := eh183_
  refine k_raw Wh183_ z182_ (Or.inl rfl) eh183_' (by first | decide | simp) (fun h184_ sh184_ uh184_ eh184_ gh184_ Wh184_ => ?_)
  have eh184_' : h184_.2.2 a0 = some (.inr (11, [sm_v (vR (some h.1)), sm_v (vR (some h7_.1)), sm_v (vR (some h15_.1)), sm_v (vR (some h24_.1)), sm_v (vR (some h31_.1)), sm_v (vR (some h42_.1)), sm_v (vR (some h54_.1)), sm_v (vR (some h67_.1)), sm_v (vR (some h81_.1)), sm_v (vR (some h93_.1)), sm_v (vR (some h109_.1)), sm_v (vR (some h126_.1)), sm_v (vR (some h144_.1)), sm_v (vR (some h163_.1)), .int 0, sm_v (vI (484 : Int32)), .long 0])) := eh184_
  exact k_rN (ci := 11) (r := 0) Wh184_ z182_ (by omega) (by decide) eh184_' ⟨⟨some h.1, rfl, fun _ => by simp, tN_s t168_⟩, ⟨some h7_.1, rfl, fun _ => by simp, tN_s t169_⟩, ⟨some h15_.1, rfl, fun _ => by simp, tN_s t170_⟩, ⟨some h24_.1, rfl, fun _ => by simp, tN_s t171_⟩, ⟨some h31_.1, rfl, fun _ => by simp, tN_s t172_⟩, ⟨some h42_.1, rfl, fun _ => by simp, tN_s t173_⟩, ⟨some h54_.1, rfl, fun _ => by simp, tN_s t174_⟩, ⟨some h67_.1, rfl, fun _ => by simp, tN_s t175_⟩, ⟨some h81_.1, rfl, fun _ => by simp, tN_s t176_⟩, ⟨some h93_.1, rfl, fun _ => by simp, tN_s t177_⟩, ⟨some h109_.1, rfl, fun _ => by simp, tN_s t178_⟩, ⟨some h126_.1, rfl, fun _ => by simp, tN_s t179_⟩, ⟨some h144_.1, rfl, fun _ => by simp, tN_s t180_⟩, ⟨some h163_.1, rfl, fun _ => by simp, tN_s qh166_⟩, ⟨_, rfl, i_lo _, i_hi _⟩, ⟨_, rfl, i_lo _, i_hi _⟩, ⟨_, rfl⟩, trivial⟩ (by omega) (by omega) (fun _ _ t _ => t)
