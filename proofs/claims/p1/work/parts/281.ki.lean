set_option maxHeartbeats 4000000 in
theorem kX0_initS {ρ R : Nat} {G : GT} {a0 : Nat} {a1 : Int32} {h : sm_H} (Wh : Wf G h) (l : a0 < h.1) (z : (G a0).1 = 0) (e : h.2.2 a0 = some (.inr (0, [.null, .int 0]))) (p0 : a1.toInt = (R : Int)) (p1 : R ≤ 1200) : kJ (RA h.1 a0 [] (h.1 + 1) (h.2.1 + R) G h (fun (G : GT) (_ : Unit) (h' : sm_H) => tG G a0 1 ρ ∧ ∃ it, sm_get h' (some a0) 0 0 = some (va_rf (some it)) ∧ tG G it 21 ρ ∧ (G it).2.1 = R ∧ sm_get h' (some a0) 0 1 = some (.int 0))) (fX0_init a0 a1 h) := by
  have L0 : (0 : Int32).toInt = 0 := rfl
  unfold fX0_init
  refine k_ltl (fun x1 q1 => ?_)
  rw [if_neg (nw_ok (by omega) (by omega))]
  have hc : x1.toNatClampNeg = R := by unfold Int32.toNatClampNeg; omega
  rw [hc]
  refine k_nwa (ρ := ρ) Wh (Nat.le_refl _) (by decide) (show R ≤ 1200 by omega) dk_J (fun h2 G2 s2 u2 g2 gG2 W2 t2 l2 => ?_)
  have e2 := (g2 a0 (by omega)).trans e
  have z2 : (G2 a0).1 = 0 := by rw [gG2 a0 (by omega)]; exact z
  refine k_raw W2 z2 (Or.inl rfl) e2 (by decide) (fun h3 s3 u3 e3 g3 W3 => ?_)
  have e3' : h3.2.2 a0 = some (.inr (0, [.ref h.1, .int 0])) := e3
  have ne := tg_z t2 (by decide) z2
  exact k_rN (ci := 0) (r := ρ) W3 z2 (by omega) (by decide) e3' ⟨⟨some h.1, rfl, fun _ => by simp, tN_s t2⟩, ⟨0, rfl, by decide, by decide⟩, trivial⟩ (by omega) (by omega) (fun _ g t _ => ⟨t, h.1, by rw [pu_get e3']; rfl, tg_nw g ne t2, by rw [g _ ne]; exact l2, by rw [pu_get e3']; rfl⟩)
set_option maxHeartbeats 4000000 in
theorem kXS11_init {G : GT} {a0 : Nat} {h : sm_H} (Wh : Wf G h) (l_a0 : a0 < h.1) (z_a0 : (G a0).1 = 0) (e_a0 : h.2.2 a0 = some (.inr (11, [.null, .null, .null, .null, .null, .null, .null, .null, .null, .null, .null, .null, .null, .null, .int 0, .int 0, .long 0]))) : kJ (RA h.1 a0 [(27, 0)] (h.1 + 400) (h.2.1 + 12000) G h (fun (G : GT) (_ : Unit) (h' : sm_H) => tG G a0 12 0 ∧ (∃ tp it, CH 0 h' a0 tp it 0 ∧ tG G tp 1 1 ∧ tG G it 21 1 ∧ (G it).2.1 = 1200) ∧ (∃ tp it, CH 1 h' a0 tp it 0 ∧ tG G tp 1 2 ∧ tG G it 21 2 ∧ (G it).2.1 = 16) ∧ sm_get h' (some a0) 11 15 = some (.int 484) ∧ sm_get h' (some a0) 11 16 = some (.long 0))) (fX11_init a0 h) := by
  have L0 : (0 : Int32).toInt = 0 := rfl
  have L1 : (1 : Int32).toInt = 1 := rfl
  have L8 : (8 : Int32).toInt = 8 := rfl
  have L16 : (16 : Int32).toInt = 16 := rfl
  have L67 : (67 : Int32).toInt = 67 := rfl
  have L128 : (128 : Int32).toInt = 128 := rfl
  have L129 : (129 : Int32).toInt = 129 := rfl
  have L130 : (130 : Int32).toInt = 130 := rfl
  have L484 : (484 : Int32).toInt = 484 := rfl
  have L1200 : (1200 : Int32).toInt = 1200 := rfl
  unfold fX11_init
  refine k_new (n := 2) Wh (by omega) rfl (fun h1_ sh1_ uh1_ eh1_ gh1_ Wh1_ zh1_ => ?_)
  have e2_ := (gh1_ _ (by omega)).trans e_a0
  refine k_cA (by omega) (by omega) (by first | decide | exact fun _ q => q) (kX0_initS (ρ := 1) (R := 1200) Wh1_ (by omega) zh1_ eh1_ (by omega) (by omega)) (fun _ h3_ Gh3_ fh3_ qh3_ => ?_)
  have Wh3_ := fh3_.1
  have sh3_ := fh3_.2.1
  have th3_ := fh3_.2.2.1
  have uh3_ := fh3_.2.2.2.1
  obtain ⟨qh3_a, it0, eh3_0, th3_i, lh3_i, eh3_1⟩ := qh3_
  have e4_ := (fh3_.2.2.2.2.2 _ (by omega) (by omega) (by rw [z_a0]; simp)).trans e2_
  have z5_ : (Gh3_ a0).1 = 0 := by rw [fh3_.2.2.2.2.1 _ (by omega) (by omega)]; exact z_a0
  refine k_raw Wh3_ z5_ (Or.inl rfl) e4_ (by first | decide | simp) (fun h6_ sh6_ uh6_ eh6_ gh6_ Wh6_ => ?_)
  have eh6_' : h6_.2.2 a0 = some (.inr (11, [sm_v (vR (some h.1)), .null, .null, .null, .null, .null, .null, .null, .null, .null, .null, .null, .null, .null, .int 0, .int 0, .long 0])) := eh6_
  have e7_ := kg_fr (gh6_ _ (tg_z qh3_a (by decide) z5_)) eh3_0
  have e8_ := kg_fr (gh6_ _ (tg_z qh3_a (by decide) z5_)) eh3_1
  refine k_new (n := 2) Wh6_ (by omega) rfl (fun h9_ sh9_ uh9_ eh9_ gh9_ Wh9_ zh9_ => ?_)
  have e10_ := kg_fr (gh9_ _ (Nat.ne_of_lt (tG_lt Wh6_ qh3_a (by decide)))) e7_
  have e11_ := kg_fr (gh9_ _ (Nat.ne_of_lt (tG_lt Wh6_ qh3_a (by decide)))) e8_
  have e12_ := (gh9_ _ (by omega)).trans eh6_'
  refine k_cA (by omega) (by omega) (by first | decide | exact fun _ q => q) (kX0_initS (ρ := 2) (R := 16) Wh9_ (by omega) zh9_ eh9_ (by omega) (by omega)) (fun _ h13_ Gh13_ fh13_ qh13_ => ?_)
  have Wh13_ := fh13_.1
  have sh13_ := fh13_.2.1
  have th13_ := fh13_.2.2.1
  have uh13_ := fh13_.2.2.2.1
  obtain ⟨qh13_a, it1, eh13_0, th13_i, lh13_i, eh13_1⟩ := qh13_
  have e14_ := kg_fr (fh13_.2.2.2.2.2 _ (tG_lt Wh9_ qh3_a (by decide)) (tg_z qh3_a (by decide) zh9_) (by rw [qh3_a.1, qh3_a.2]; first | decide | simp)) e10_
  have e15_ := kg_fr (fh13_.2.2.2.2.2 _ (tG_lt Wh9_ qh3_a (by decide)) (tg_z qh3_a (by decide) zh9_) (by rw [qh3_a.1, qh3_a.2]; first | decide | simp)) e11_
  have t16_ := tg_up fh13_ Wh9_ qh3_a (by decide) (tg_z qh3_a (by decide) zh9_)
  have t17_ := tg_up fh13_ Wh9_ th3_i (by decide) (tg_z th3_i (by decide) zh9_)
  have := tg_upl fh13_ Wh9_ th3_i (by decide) (tg_z th3_i (by decide) zh9_)
  have e18_ := (fh13_.2.2.2.2.2 _ (by omega) (by omega) (by rw [z5_]; simp)).trans e12_
  have z19_ : (Gh13_ a0).1 = 0 := by rw [fh13_.2.2.2.2.1 _ (by omega) (by omega)]; exact z5_
  refine k_raw Wh13_ z19_ (Or.inl rfl) e18_ (by first | decide | simp) (fun h20_ sh20_ uh20_ eh20_ gh20_ Wh20_ => ?_)
  have eh20_' : h20_.2.2 a0 = some (.inr (11, [sm_v (vR (some h.1)), sm_v (vR (some h6_.1)), .null, .null, .null, .null, .null, .null, .null, .null, .null, .null, .null, .null, .int 0, .int 0, .long 0])) := eh20_
  have e21_ := kg_fr (gh20_ _ (tg_z t16_ (by decide) z19_)) e14_
  have e22_ := kg_fr (gh20_ _ (tg_z t16_ (by decide) z19_)) e15_
  have e23_ := kg_fr (gh20_ _ (tg_z qh13_a (by decide) z19_)) eh13_0
  have e24_ := kg_fr (gh20_ _ (tg_z qh13_a (by decide) z19_)) eh13_1
  refine k_new (n := 5) Wh20_ (by omega) rfl (fun h25_ sh25_ uh25_ eh25_ gh25_ Wh25_ zh25_ => ?_)
  have e26_ := kg_fr (gh25_ _ (Nat.ne_of_lt (tG_lt Wh20_ t16_ (by decide)))) e21_
  have e27_ := kg_fr (gh25_ _ (Nat.ne_of_lt (tG_lt Wh20_ t16_ (by decide)))) e22_
  have e28_ := kg_fr (gh25_ _ (Nat.ne_of_lt (tG_lt Wh20_ qh13_a (by decide)))) e23_
  have e29_ := kg_fr (gh25_ _ (Nat.ne_of_lt (tG_lt Wh20_ qh13_a (by decide)))) e24_
  have e30_ := (gh25_ _ (by omega)).trans eh20_'
  refine k_cA (by omega) (by omega) (by first | decide | exact fun _ q => q) (kX9_init Wh25_ (by omega) zh25_ eh25_ ) (fun v32_ h31_ Gh31_ fh31_ qh31_ => ?_)
  have Wh31_ := fh31_.1
  have sh31_ := fh31_.2.1
  have th31_ := fh31_.2.2.1
  have uh31_ := fh31_.2.2.2.1
  have e33_ := kg_fr (fh31_.2.2.2.2.2 _ (tG_lt Wh25_ t16_ (by decide)) (tg_z t16_ (by decide) zh25_) (by rw [t16_.1, t16_.2]; first | decide | simp)) e26_
  have e34_ := kg_fr (fh31_.2.2.2.2.2 _ (tG_lt Wh25_ t16_ (by decide)) (tg_z t16_ (by decide) zh25_) (by rw [t16_.1, t16_.2]; first | decide | simp)) e27_
  have e35_ := kg_fr (fh31_.2.2.2.2.2 _ (tG_lt Wh25_ qh13_a (by decide)) (tg_z qh13_a (by decide) zh25_) (by rw [qh13_a.1, qh13_a.2]; first | decide | simp)) e28_
  have e36_ := kg_fr (fh31_.2.2.2.2.2 _ (tG_lt Wh25_ qh13_a (by decide)) (tg_z qh13_a (by decide) zh25_) (by rw [qh13_a.1, qh13_a.2]; first | decide | simp)) e29_
  have t37_ := tg_up fh31_ Wh25_ t16_ (by decide) (tg_z t16_ (by decide) zh25_)
  have t38_ := tg_up fh31_ Wh25_ t17_ (by decide) (tg_z t17_ (by decide) zh25_)
  have := tg_upl fh31_ Wh25_ t17_ (by decide) (tg_z t17_ (by decide) zh25_)
  have t39_ := tg_up fh31_ Wh25_ qh13_a (by decide) (tg_z qh13_a (by decide) zh25_)
  have t40_ := tg_up fh31_ Wh25_ th13_i (by decide) (tg_z th13_i (by decide) zh25_)
  have := tg_upl fh31_ Wh25_ th13_i (by decide) (tg_z th13_i (by decide) zh25_)
  have e41_ := (fh31_.2.2.2.2.2 _ (by omega) (by omega) (by rw [z19_]; simp)).trans e30_
  have z42_ : (Gh31_ a0).1 = 0 := by rw [fh31_.2.2.2.2.1 _ (by omega) (by omega)]; exact z19_
  refine k_raw Wh31_ z42_ (Or.inl rfl) e41_ (by first | decide | simp) (fun h43_ sh43_ uh43_ eh43_ gh43_ Wh43_ => ?_)
  have eh43_' : h43_.2.2 a0 = some (.inr (11, [sm_v (vR (some h.1)), sm_v (vR (some h6_.1)), sm_v (vR (some h20_.1)), .null, .null, .null, .null, .null, .null, .null, .null, .null, .null, .null, .int 0, .int 0, .long 0])) := eh43_
  have e44_ := kg_fr (gh43_ _ (tg_z t37_ (by decide) z42_)) e33_
  have e45_ := kg_fr (gh43_ _ (tg_z t37_ (by decide) z42_)) e34_
  have e46_ := kg_fr (gh43_ _ (tg_z t39_ (by decide) z42_)) e35_
  have e47_ := kg_fr (gh43_ _ (tg_z t39_ (by decide) z42_)) e36_
  rw [if_neg (by decide)]
  try rw [show ((8 : Int32)).toNatClampNeg = 8 from rfl]
  refine k_nwa (ρ := 0) Wh43_ (by omega) (by decide) (by decide) (dk_R 6 (by decide)) (fun h48_ Gh48_ sh48_ uh48_ gh48_ kh48_ Wh48_ th48_ lh48_ => ?_)
  have e49_ := kg_fr (gh48_ _ (Nat.ne_of_lt (tG_lt Wh43_ t37_ (by decide)))) e44_
  have e50_ := kg_fr (gh48_ _ (Nat.ne_of_lt (tG_lt Wh43_ t37_ (by decide)))) e45_
  have e51_ := kg_fr (gh48_ _ (Nat.ne_of_lt (tG_lt Wh43_ t39_ (by decide)))) e46_
  have e52_ := kg_fr (gh48_ _ (Nat.ne_of_lt (tG_lt Wh43_ t39_ (by decide)))) e47_
  have t53_ := tg_nw kh48_ (Nat.ne_of_lt (tG_lt Wh43_ t37_ (by decide))) t37_
  have t54_ := tg_nw kh48_ (Nat.ne_of_lt (tG_lt Wh43_ t38_ (by decide))) t38_
  have := congrArg (fun z => z.2.1) (kh48_ _ (Nat.ne_of_lt (tG_lt Wh43_ t38_ (by decide))))
  try simp only at this
  have t55_ := tg_nw kh48_ (Nat.ne_of_lt (tG_lt Wh43_ t39_ (by decide))) t39_
  have t56_ := tg_nw kh48_ (Nat.ne_of_lt (tG_lt Wh43_ t40_ (by decide))) t40_
  have := congrArg (fun z => z.2.1) (kh48_ _ (Nat.ne_of_lt (tG_lt Wh43_ t40_ (by decide))))
  try simp only at this
  have t57_ := tg_nw kh48_ (Nat.ne_of_lt (tG_lt Wh43_ qh31_ (by decide))) qh31_
  have e58_ := (gh48_ _ (by omega)).trans eh43_'
  have z59_ : (Gh48_ a0).1 = 0 := by rw [kh48_ _ (by omega)]; exact z42_
  refine k_raw Wh48_ z59_ (Or.inl rfl) e58_ (by first | decide | simp) (fun h60_ sh60_ uh60_ eh60_ gh60_ Wh60_ => ?_)
  have eh60_' : h60_.2.2 a0 = some (.inr (11, [sm_v (vR (some h.1)), sm_v (vR (some h6_.1)), sm_v (vR (some h20_.1)), sm_v (vR (some h43_.1)), .null, .null, .null, .null, .null, .null, .null, .null, .null, .null, .int 0, .int 0, .long 0])) := eh60_
  have e61_ := kg_fr (gh60_ _ (tg_z t53_ (by decide) z59_)) e49_
  have e62_ := kg_fr (gh60_ _ (tg_z t53_ (by decide) z59_)) e50_
  have e63_ := kg_fr (gh60_ _ (tg_z t55_ (by decide) z59_)) e51_
  have e64_ := kg_fr (gh60_ _ (tg_z t55_ (by decide) z59_)) e52_
  refine k_new (n := 9) Wh60_ (by omega) rfl (fun h65_ sh65_ uh65_ eh65_ gh65_ Wh65_ zh65_ => ?_)
  have e66_ := kg_fr (gh65_ _ (Nat.ne_of_lt (tG_lt Wh60_ t53_ (by decide)))) e61_
  have e67_ := kg_fr (gh65_ _ (Nat.ne_of_lt (tG_lt Wh60_ t53_ (by decide)))) e62_
  have e68_ := kg_fr (gh65_ _ (Nat.ne_of_lt (tG_lt Wh60_ t55_ (by decide)))) e63_
  have e69_ := kg_fr (gh65_ _ (Nat.ne_of_lt (tG_lt Wh60_ t55_ (by decide)))) e64_
  have e70_ := (gh65_ _ (by omega)).trans eh60_'
  refine k_cA (by omega) (by omega) (by first | decide | exact fun _ q => q) (kX3_init Wh65_ (by omega) zh65_ eh65_ ) (fun v72_ h71_ Gh71_ fh71_ qh71_ => ?_)
  have Wh71_ := fh71_.1
  have sh71_ := fh71_.2.1
  have th71_ := fh71_.2.2.1
  have uh71_ := fh71_.2.2.2.1
  have e73_ := kg_fr (fh71_.2.2.2.2.2 _ (tG_lt Wh65_ t53_ (by decide)) (tg_z t53_ (by decide) zh65_) (by rw [t53_.1, t53_.2]; first | decide | simp)) e66_
  have e74_ := kg_fr (fh71_.2.2.2.2.2 _ (tG_lt Wh65_ t53_ (by decide)) (tg_z t53_ (by decide) zh65_) (by rw [t53_.1, t53_.2]; first | decide | simp)) e67_
  have e75_ := kg_fr (fh71_.2.2.2.2.2 _ (tG_lt Wh65_ t55_ (by decide)) (tg_z t55_ (by decide) zh65_) (by rw [t55_.1, t55_.2]; first | decide | simp)) e68_
  have e76_ := kg_fr (fh71_.2.2.2.2.2 _ (tG_lt Wh65_ t55_ (by decide)) (tg_z t55_ (by decide) zh65_) (by rw [t55_.1, t55_.2]; first | decide | simp)) e69_
  have t77_ := tg_up fh71_ Wh65_ t53_ (by decide) (tg_z t53_ (by decide) zh65_)
  have t78_ := tg_up fh71_ Wh65_ t54_ (by decide) (tg_z t54_ (by decide) zh65_)
  have := tg_upl fh71_ Wh65_ t54_ (by decide) (tg_z t54_ (by decide) zh65_)
  have t79_ := tg_up fh71_ Wh65_ t55_ (by decide) (tg_z t55_ (by decide) zh65_)
  have t80_ := tg_up fh71_ Wh65_ t56_ (by decide) (tg_z t56_ (by decide) zh65_)
  have := tg_upl fh71_ Wh65_ t56_ (by decide) (tg_z t56_ (by decide) zh65_)
  have t81_ := tg_up fh71_ Wh65_ t57_ (by decide) (tg_z t57_ (by decide) zh65_)
  have t82_ := tg_up fh71_ Wh65_ th48_ (by decide) (tg_z th48_ (by decide) zh65_)
  have := tg_upl fh71_ Wh65_ th48_ (by decide) (tg_z th48_ (by decide) zh65_)
  have e83_ := (fh71_.2.2.2.2.2 _ (by omega) (by omega) (by rw [z59_]; simp)).trans e70_
  have z84_ : (Gh71_ a0).1 = 0 := by rw [fh71_.2.2.2.2.1 _ (by omega) (by omega)]; exact z59_
  refine k_raw Wh71_ z84_ (Or.inl rfl) e83_ (by first | decide | simp) (fun h85_ sh85_ uh85_ eh85_ gh85_ Wh85_ => ?_)
  have eh85_' : h85_.2.2 a0 = some (.inr (11, [sm_v (vR (some h.1)), sm_v (vR (some h6_.1)), sm_v (vR (some h20_.1)), sm_v (vR (some h43_.1)), sm_v (vR (some h60_.1)), .null, .null, .null, .null, .null, .null, .null, .null, .null, .int 0, .int 0, .long 0])) := eh85_
  have e86_ := kg_fr (gh85_ _ (tg_z t77_ (by decide) z84_)) e73_
  have e87_ := kg_fr (gh85_ _ (tg_z t77_ (by decide) z84_)) e74_
  have e88_ := kg_fr (gh85_ _ (tg_z t79_ (by decide) z84_)) e75_
  have e89_ := kg_fr (gh85_ _ (tg_z t79_ (by decide) z84_)) e76_
  refine k_new (n := 3) Wh85_ (by omega) rfl (fun h90_ sh90_ uh90_ eh90_ gh90_ Wh90_ zh90_ => ?_)
  have e91_ := kg_fr (gh90_ _ (Nat.ne_of_lt (tG_lt Wh85_ t77_ (by decide)))) e86_
  have e92_ := kg_fr (gh90_ _ (Nat.ne_of_lt (tG_lt Wh85_ t77_ (by decide)))) e87_
  have e93_ := kg_fr (gh90_ _ (Nat.ne_of_lt (tG_lt Wh85_ t79_ (by decide)))) e88_
  have e94_ := kg_fr (gh90_ _ (Nat.ne_of_lt (tG_lt Wh85_ t79_ (by decide)))) e89_
  have e95_ := (gh90_ _ (by omega)).trans eh85_'
  refine k_kR (x := some h.1) (by rw [pu_get e95_]; rfl) ?_
  refine k_cA (by omega) (by omega) (by first | decide | exact fun _ q => q) (kX5_init Wh90_ (by omega) zh90_ eh90_ t77_) (fun v97_ h96_ Gh96_ fh96_ qh96_ => ?_)
  have Wh96_ := fh96_.1
  have sh96_ := fh96_.2.1
  have th96_ := fh96_.2.2.1
  have uh96_ := fh96_.2.2.2.1
  have e98_ := kg_fr (fh96_.2.2.2.2.2 _ (tG_lt Wh90_ t77_ (by decide)) (tg_z t77_ (by decide) zh90_) (by rw [t77_.1, t77_.2]; first | decide | simp)) e91_
  have e99_ := kg_fr (fh96_.2.2.2.2.2 _ (tG_lt Wh90_ t77_ (by decide)) (tg_z t77_ (by decide) zh90_) (by rw [t77_.1, t77_.2]; first | decide | simp)) e92_
  have e100_ := kg_fr (fh96_.2.2.2.2.2 _ (tG_lt Wh90_ t79_ (by decide)) (tg_z t79_ (by decide) zh90_) (by rw [t79_.1, t79_.2]; first | decide | simp)) e93_
  have e101_ := kg_fr (fh96_.2.2.2.2.2 _ (tG_lt Wh90_ t79_ (by decide)) (tg_z t79_ (by decide) zh90_) (by rw [t79_.1, t79_.2]; first | decide | simp)) e94_
  have t102_ := tg_up fh96_ Wh90_ t77_ (by decide) (tg_z t77_ (by decide) zh90_)
  have t103_ := tg_up fh96_ Wh90_ t78_ (by decide) (tg_z t78_ (by decide) zh90_)
  have := tg_upl fh96_ Wh90_ t78_ (by decide) (tg_z t78_ (by decide) zh90_)
  have t104_ := tg_up fh96_ Wh90_ t79_ (by decide) (tg_z t79_ (by decide) zh90_)
  have t105_ := tg_up fh96_ Wh90_ t80_ (by decide) (tg_z t80_ (by decide) zh90_)
  have := tg_upl fh96_ Wh90_ t80_ (by decide) (tg_z t80_ (by decide) zh90_)
  have t106_ := tg_up fh96_ Wh90_ t81_ (by decide) (tg_z t81_ (by decide) zh90_)
  have t107_ := tg_up fh96_ Wh90_ t82_ (by decide) (tg_z t82_ (by decide) zh90_)
  have := tg_upl fh96_ Wh90_ t82_ (by decide) (tg_z t82_ (by decide) zh90_)
  have t108_ := tg_up fh96_ Wh90_ qh71_ (by decide) (tg_z qh71_ (by decide) zh90_)
  have e109_ := (fh96_.2.2.2.2.2 _ (by omega) (by omega) (by rw [z84_]; simp)).trans e95_
  have z110_ : (Gh96_ a0).1 = 0 := by rw [fh96_.2.2.2.2.1 _ (by omega) (by omega)]; exact z84_
  refine k_raw Wh96_ z110_ (Or.inl rfl) e109_ (by first | decide | simp) (fun h111_ sh111_ uh111_ eh111_ gh111_ Wh111_ => ?_)
  have eh111_' : h111_.2.2 a0 = some (.inr (11, [sm_v (vR (some h.1)), sm_v (vR (some h6_.1)), sm_v (vR (some h20_.1)), sm_v (vR (some h43_.1)), sm_v (vR (some h60_.1)), sm_v (vR (some h85_.1)), .null, .null, .null, .null, .null, .null, .null, .null, .int 0, .int 0, .long 0])) := eh111_
  have e112_ := kg_fr (gh111_ _ (tg_z t102_ (by decide) z110_)) e98_
  have e113_ := kg_fr (gh111_ _ (tg_z t102_ (by decide) z110_)) e99_
  have e114_ := kg_fr (gh111_ _ (tg_z t104_ (by decide) z110_)) e100_
  have e115_ := kg_fr (gh111_ _ (tg_z t104_ (by decide) z110_)) e101_
  refine k_new (n := 2) Wh111_ (by omega) rfl (fun h116_ sh116_ uh116_ eh116_ gh116_ Wh116_ zh116_ => ?_)
  have e117_ := kg_fr (gh116_ _ (Nat.ne_of_lt (tG_lt Wh111_ t102_ (by decide)))) e112_
  have e118_ := kg_fr (gh116_ _ (Nat.ne_of_lt (tG_lt Wh111_ t102_ (by decide)))) e113_
  have e119_ := kg_fr (gh116_ _ (Nat.ne_of_lt (tG_lt Wh111_ t104_ (by decide)))) e114_
  have e120_ := kg_fr (gh116_ _ (Nat.ne_of_lt (tG_lt Wh111_ t104_ (by decide)))) e115_
  have e121_ := (gh116_ _ (by omega)).trans eh111_'
  refine k_kR (x := some h20_.1) (by rw [pu_get e121_]; rfl) ?_
  refine k_kR (x := some h60_.1) (by rw [pu_get e121_]; rfl) ?_
  refine k_cA (by omega) (by omega) (by first | decide | exact fun _ q => q) (kX1_init Wh116_ (by omega) zh116_ eh116_ t106_ t108_) (fun v123_ h122_ Gh122_ fh122_ qh122_ => ?_)
  have Wh122_ := fh122_.1
  have sh122_ := fh122_.2.1
  have th122_ := fh122_.2.2.1
  have uh122_ := fh122_.2.2.2.1
  have e124_ := kg_fr (fh122_.2.2.2.2.2 _ (tG_lt Wh116_ t102_ (by decide)) (tg_z t102_ (by decide) zh116_) (by rw [t102_.1, t102_.2]; first | decide | simp)) e117_
  have e125_ := kg_fr (fh122_.2.2.2.2.2 _ (tG_lt Wh116_ t102_ (by decide)) (tg_z t102_ (by decide) zh116_) (by rw [t102_.1, t102_.2]; first | decide | simp)) e118_
  have e126_ := kg_fr (fh122_.2.2.2.2.2 _ (tG_lt Wh116_ t104_ (by decide)) (tg_z t104_ (by decide) zh116_) (by rw [t104_.1, t104_.2]; first | decide | simp)) e119_
  have e127_ := kg_fr (fh122_.2.2.2.2.2 _ (tG_lt Wh116_ t104_ (by decide)) (tg_z t104_ (by decide) zh116_) (by rw [t104_.1, t104_.2]; first | decide | simp)) e120_
  have t128_ := tg_up fh122_ Wh116_ t102_ (by decide) (tg_z t102_ (by decide) zh116_)
  have t129_ := tg_up fh122_ Wh116_ t103_ (by decide) (tg_z t103_ (by decide) zh116_)
  have := tg_upl fh122_ Wh116_ t103_ (by decide) (tg_z t103_ (by decide) zh116_)
  have t130_ := tg_up fh122_ Wh116_ t104_ (by decide) (tg_z t104_ (by decide) zh116_)
  have t131_ := tg_up fh122_ Wh116_ t105_ (by decide) (tg_z t105_ (by decide) zh116_)
  have := tg_upl fh122_ Wh116_ t105_ (by decide) (tg_z t105_ (by decide) zh116_)
  have t132_ := tg_up fh122_ Wh116_ t106_ (by decide) (tg_z t106_ (by decide) zh116_)
  have t133_ := tg_up fh122_ Wh116_ t107_ (by decide) (tg_z t107_ (by decide) zh116_)
  have := tg_upl fh122_ Wh116_ t107_ (by decide) (tg_z t107_ (by decide) zh116_)
  have t134_ := tg_up fh122_ Wh116_ t108_ (by decide) (tg_z t108_ (by decide) zh116_)
  have t135_ := tg_up fh122_ Wh116_ qh96_ (by decide) (tg_z qh96_ (by decide) zh116_)
  have e136_ := (fh122_.2.2.2.2.2 _ (by omega) (by omega) (by rw [z110_]; simp)).trans e121_
  have z137_ : (Gh122_ a0).1 = 0 := by rw [fh122_.2.2.2.2.1 _ (by omega) (by omega)]; exact z110_
  refine k_raw Wh122_ z137_ (Or.inl rfl) e136_ (by first | decide | simp) (fun h138_ sh138_ uh138_ eh138_ gh138_ Wh138_ => ?_)
  have eh138_' : h138_.2.2 a0 = some (.inr (11, [sm_v (vR (some h.1)), sm_v (vR (some h6_.1)), sm_v (vR (some h20_.1)), sm_v (vR (some h43_.1)), sm_v (vR (some h60_.1)), sm_v (vR (some h85_.1)), sm_v (vR (some h111_.1)), .null, .null, .null, .null, .null, .null, .null, .int 0, .int 0, .long 0])) := eh138_
  have e139_ := kg_fr (gh138_ _ (tg_z t128_ (by decide) z137_)) e124_
  have e140_ := kg_fr (gh138_ _ (tg_z t128_ (by decide) z137_)) e125_
  have e141_ := kg_fr (gh138_ _ (tg_z t130_ (by decide) z137_)) e126_
  have e142_ := kg_fr (gh138_ _ (tg_z t130_ (by decide) z137_)) e127_
  refine k_new (n := 6) Wh138_ (by omega) rfl (fun h143_ sh143_ uh143_ eh143_ gh143_ Wh143_ zh143_ => ?_)
  have e144_ := kg_fr (gh143_ _ (Nat.ne_of_lt (tG_lt Wh138_ t128_ (by decide)))) e139_
  have e145_ := kg_fr (gh143_ _ (Nat.ne_of_lt (tG_lt Wh138_ t128_ (by decide)))) e140_
  have e146_ := kg_fr (gh143_ _ (Nat.ne_of_lt (tG_lt Wh138_ t130_ (by decide)))) e141_
  have e147_ := kg_fr (gh143_ _ (Nat.ne_of_lt (tG_lt Wh138_ t130_ (by decide)))) e142_
  have e148_ := (gh143_ _ (by omega)).trans eh138_'
  refine k_cA (by omega) (by omega) (by first | decide | exact fun _ q => q) (kX6_init Wh143_ (by omega) zh143_ eh143_ ) (fun v150_ h149_ Gh149_ fh149_ qh149_ => ?_)
  have Wh149_ := fh149_.1
  have sh149_ := fh149_.2.1
  have th149_ := fh149_.2.2.1
  have uh149_ := fh149_.2.2.2.1
  have e151_ := kg_fr (fh149_.2.2.2.2.2 _ (tG_lt Wh143_ t128_ (by decide)) (tg_z t128_ (by decide) zh143_) (by rw [t128_.1, t128_.2]; first | decide | simp)) e144_
  have e152_ := kg_fr (fh149_.2.2.2.2.2 _ (tG_lt Wh143_ t128_ (by decide)) (tg_z t128_ (by decide) zh143_) (by rw [t128_.1, t128_.2]; first | decide | simp)) e145_
  have e153_ := kg_fr (fh149_.2.2.2.2.2 _ (tG_lt Wh143_ t130_ (by decide)) (tg_z t130_ (by decide) zh143_) (by rw [t130_.1, t130_.2]; first | decide | simp)) e146_
  have e154_ := kg_fr (fh149_.2.2.2.2.2 _ (tG_lt Wh143_ t130_ (by decide)) (tg_z t130_ (by decide) zh143_) (by rw [t130_.1, t130_.2]; first | decide | simp)) e147_
  have t155_ := tg_up fh149_ Wh143_ t128_ (by decide) (tg_z t128_ (by decide) zh143_)
  have t156_ := tg_up fh149_ Wh143_ t129_ (by decide) (tg_z t129_ (by decide) zh143_)
  have := tg_upl fh149_ Wh143_ t129_ (by decide) (tg_z t129_ (by decide) zh143_)
  have t157_ := tg_up fh149_ Wh143_ t130_ (by decide) (tg_z t130_ (by decide) zh143_)
  have t158_ := tg_up fh149_ Wh143_ t131_ (by decide) (tg_z t131_ (by decide) zh143_)
  have := tg_upl fh149_ Wh143_ t131_ (by decide) (tg_z t131_ (by decide) zh143_)
  have t159_ := tg_up fh149_ Wh143_ t132_ (by decide) (tg_z t132_ (by decide) zh143_)
  have t160_ := tg_up fh149_ Wh143_ t133_ (by decide) (tg_z t133_ (by decide) zh143_)
  have := tg_upl fh149_ Wh143_ t133_ (by decide) (tg_z t133_ (by decide) zh143_)
  have t161_ := tg_up fh149_ Wh143_ t134_ (by decide) (tg_z t134_ (by decide) zh143_)
  have t162_ := tg_up fh149_ Wh143_ t135_ (by decide) (tg_z t135_ (by decide) zh143_)
  have t163_ := tg_up fh149_ Wh143_ qh122_ (by decide) (tg_z qh122_ (by decide) zh143_)
  have e164_ := (fh149_.2.2.2.2.2 _ (by omega) (by omega) (by rw [z137_]; simp)).trans e148_
  have z165_ : (Gh149_ a0).1 = 0 := by rw [fh149_.2.2.2.2.1 _ (by omega) (by omega)]; exact z137_
  refine k_raw Wh149_ z165_ (Or.inl rfl) e164_ (by first | decide | simp) (fun h166_ sh166_ uh166_ eh166_ gh166_ Wh166_ => ?_)
  have eh166_' : h166_.2.2 a0 = some (.inr (11, [sm_v (vR (some h.1)), sm_v (vR (some h6_.1)), sm_v (vR (some h20_.1)), sm_v (vR (some h43_.1)), sm_v (vR (some h60_.1)), sm_v (vR (some h85_.1)), sm_v (vR (some h111_.1)), sm_v (vR (some h138_.1)), .null, .null, .null, .null, .null, .null, .int 0, .int 0, .long 0])) := eh166_
  have e167_ := kg_fr (gh166_ _ (tg_z t155_ (by decide) z165_)) e151_
  have e168_ := kg_fr (gh166_ _ (tg_z t155_ (by decide) z165_)) e152_
  have e169_ := kg_fr (gh166_ _ (tg_z t157_ (by decide) z165_)) e153_
  have e170_ := kg_fr (gh166_ _ (tg_z t157_ (by decide) z165_)) e154_
  rw [if_neg (by decide)]
  try rw [show ((8 : Int32)).toNatClampNeg = 8 from rfl]
  refine k_nwa (ρ := 0) Wh166_ (by omega) (by decide) (by decide) dk_I (fun h171_ Gh171_ sh171_ uh171_ gh171_ kh171_ Wh171_ th171_ lh171_ => ?_)
  have e172_ := kg_fr (gh171_ _ (Nat.ne_of_lt (tG_lt Wh166_ t155_ (by decide)))) e167_
  have e173_ := kg_fr (gh171_ _ (Nat.ne_of_lt (tG_lt Wh166_ t155_ (by decide)))) e168_
  have e174_ := kg_fr (gh171_ _ (Nat.ne_of_lt (tG_lt Wh166_ t157_ (by decide)))) e169_
  have e175_ := kg_fr (gh171_ _ (Nat.ne_of_lt (tG_lt Wh166_ t157_ (by decide)))) e170_
  have t176_ := tg_nw kh171_ (Nat.ne_of_lt (tG_lt Wh166_ t155_ (by decide))) t155_
  have t177_ := tg_nw kh171_ (Nat.ne_of_lt (tG_lt Wh166_ t156_ (by decide))) t156_
  have := congrArg (fun z => z.2.1) (kh171_ _ (Nat.ne_of_lt (tG_lt Wh166_ t156_ (by decide))))
  try simp only at this
  have t178_ := tg_nw kh171_ (Nat.ne_of_lt (tG_lt Wh166_ t157_ (by decide))) t157_
  have t179_ := tg_nw kh171_ (Nat.ne_of_lt (tG_lt Wh166_ t158_ (by decide))) t158_
  have := congrArg (fun z => z.2.1) (kh171_ _ (Nat.ne_of_lt (tG_lt Wh166_ t158_ (by decide))))
  try simp only at this
  have t180_ := tg_nw kh171_ (Nat.ne_of_lt (tG_lt Wh166_ t159_ (by decide))) t159_
  have t181_ := tg_nw kh171_ (Nat.ne_of_lt (tG_lt Wh166_ t160_ (by decide))) t160_
  have := congrArg (fun z => z.2.1) (kh171_ _ (Nat.ne_of_lt (tG_lt Wh166_ t160_ (by decide))))
  try simp only at this
  have t182_ := tg_nw kh171_ (Nat.ne_of_lt (tG_lt Wh166_ t161_ (by decide))) t161_
  have t183_ := tg_nw kh171_ (Nat.ne_of_lt (tG_lt Wh166_ t162_ (by decide))) t162_
  have t184_ := tg_nw kh171_ (Nat.ne_of_lt (tG_lt Wh166_ t163_ (by decide))) t163_
  have t185_ := tg_nw kh171_ (Nat.ne_of_lt (tG_lt Wh166_ qh149_ (by decide))) qh149_
  have e186_ := (gh171_ _ (by omega)).trans eh166_'
  have z187_ : (Gh171_ a0).1 = 0 := by rw [kh171_ _ (by omega)]; exact z165_
  refine k_raw Wh171_ z187_ (Or.inl rfl) e186_ (by first | decide | simp) (fun h188_ sh188_ uh188_ eh188_ gh188_ Wh188_ => ?_)
  have eh188_' : h188_.2.2 a0 = some (.inr (11, [sm_v (vR (some h.1)), sm_v (vR (some h6_.1)), sm_v (vR (some h20_.1)), sm_v (vR (some h43_.1)), sm_v (vR (some h60_.1)), sm_v (vR (some h85_.1)), sm_v (vR (some h111_.1)), sm_v (vR (some h138_.1)), sm_v (vR (some h166_.1)), .null, .null, .null, .null, .null, .int 0, .int 0, .long 0])) := eh188_
  have e189_ := kg_fr (gh188_ _ (tg_z t176_ (by decide) z187_)) e172_
  have e190_ := kg_fr (gh188_ _ (tg_z t176_ (by decide) z187_)) e173_
  have e191_ := kg_fr (gh188_ _ (tg_z t178_ (by decide) z187_)) e174_
  have e192_ := kg_fr (gh188_ _ (tg_z t178_ (by decide) z187_)) e175_
  refine k_new (n := 2) Wh188_ (by omega) rfl (fun h193_ sh193_ uh193_ eh193_ gh193_ Wh193_ zh193_ => ?_)
  have e194_ := kg_fr (gh193_ _ (Nat.ne_of_lt (tG_lt Wh188_ t176_ (by decide)))) e189_
  have e195_ := kg_fr (gh193_ _ (Nat.ne_of_lt (tG_lt Wh188_ t176_ (by decide)))) e190_
  have e196_ := kg_fr (gh193_ _ (Nat.ne_of_lt (tG_lt Wh188_ t178_ (by decide)))) e191_
  have e197_ := kg_fr (gh193_ _ (Nat.ne_of_lt (tG_lt Wh188_ t178_ (by decide)))) e192_
  have e198_ := (gh193_ _ (by omega)).trans eh188_'
  refine k_cA (by omega) (by omega) (by first | decide | exact fun _ q => q) (kX0_init (ρ := 0) (R := 16) Wh193_ (by omega) zh193_ eh193_  (by first | omega | assumption | decide) (by first | omega | assumption | decide)) (fun v200_ h199_ Gh199_ fh199_ qh199_ => ?_)
  have Wh199_ := fh199_.1
  have sh199_ := fh199_.2.1
  have th199_ := fh199_.2.2.1
  have uh199_ := fh199_.2.2.2.1
  have e201_ := kg_fr (fh199_.2.2.2.2.2 _ (tG_lt Wh193_ t176_ (by decide)) (tg_z t176_ (by decide) zh193_) (by rw [t176_.1, t176_.2]; first | decide | simp)) e194_
  have e202_ := kg_fr (fh199_.2.2.2.2.2 _ (tG_lt Wh193_ t176_ (by decide)) (tg_z t176_ (by decide) zh193_) (by rw [t176_.1, t176_.2]; first | decide | simp)) e195_
  have e203_ := kg_fr (fh199_.2.2.2.2.2 _ (tG_lt Wh193_ t178_ (by decide)) (tg_z t178_ (by decide) zh193_) (by rw [t178_.1, t178_.2]; first | decide | simp)) e196_
  have e204_ := kg_fr (fh199_.2.2.2.2.2 _ (tG_lt Wh193_ t178_ (by decide)) (tg_z t178_ (by decide) zh193_) (by rw [t178_.1, t178_.2]; first | decide | simp)) e197_
  have t205_ := tg_up fh199_ Wh193_ t176_ (by decide) (tg_z t176_ (by decide) zh193_)
  have t206_ := tg_up fh199_ Wh193_ t177_ (by decide) (tg_z t177_ (by decide) zh193_)
  have := tg_upl fh199_ Wh193_ t177_ (by decide) (tg_z t177_ (by decide) zh193_)
  have t207_ := tg_up fh199_ Wh193_ t178_ (by decide) (tg_z t178_ (by decide) zh193_)
  have t208_ := tg_up fh199_ Wh193_ t179_ (by decide) (tg_z t179_ (by decide) zh193_)
  have := tg_upl fh199_ Wh193_ t179_ (by decide) (tg_z t179_ (by decide) zh193_)
  have t209_ := tg_up fh199_ Wh193_ t180_ (by decide) (tg_z t180_ (by decide) zh193_)
  have t210_ := tg_up fh199_ Wh193_ t181_ (by decide) (tg_z t181_ (by decide) zh193_)
  have := tg_upl fh199_ Wh193_ t181_ (by decide) (tg_z t181_ (by decide) zh193_)
  have t211_ := tg_up fh199_ Wh193_ t182_ (by decide) (tg_z t182_ (by decide) zh193_)
  have t212_ := tg_up fh199_ Wh193_ t183_ (by decide) (tg_z t183_ (by decide) zh193_)
  have t213_ := tg_up fh199_ Wh193_ t184_ (by decide) (tg_z t184_ (by decide) zh193_)
  have t214_ := tg_up fh199_ Wh193_ t185_ (by decide) (tg_z t185_ (by decide) zh193_)
  have t215_ := tg_up fh199_ Wh193_ th171_ (by decide) (tg_z th171_ (by decide) zh193_)
  have := tg_upl fh199_ Wh193_ th171_ (by decide) (tg_z th171_ (by decide) zh193_)
  have e216_ := (fh199_.2.2.2.2.2 _ (by omega) (by omega) (by rw [z187_]; simp)).trans e198_
  have z217_ : (Gh199_ a0).1 = 0 := by rw [fh199_.2.2.2.2.1 _ (by omega) (by omega)]; exact z187_
  refine k_raw Wh199_ z217_ (Or.inl rfl) e216_ (by first | decide | simp) (fun h218_ sh218_ uh218_ eh218_ gh218_ Wh218_ => ?_)
  have eh218_' : h218_.2.2 a0 = some (.inr (11, [sm_v (vR (some h.1)), sm_v (vR (some h6_.1)), sm_v (vR (some h20_.1)), sm_v (vR (some h43_.1)), sm_v (vR (some h60_.1)), sm_v (vR (some h85_.1)), sm_v (vR (some h111_.1)), sm_v (vR (some h138_.1)), sm_v (vR (some h166_.1)), sm_v (vR (some h188_.1)), .null, .null, .null, .null, .int 0, .int 0, .long 0])) := eh218_
  have e219_ := kg_fr (gh218_ _ (tg_z t205_ (by decide) z217_)) e201_
  have e220_ := kg_fr (gh218_ _ (tg_z t205_ (by decide) z217_)) e202_
  have e221_ := kg_fr (gh218_ _ (tg_z t207_ (by decide) z217_)) e203_
  have e222_ := kg_fr (gh218_ _ (tg_z t207_ (by decide) z217_)) e204_
  refine k_new (n := 3) Wh218_ (by omega) rfl (fun h223_ sh223_ uh223_ eh223_ gh223_ Wh223_ zh223_ => ?_)
  have e224_ := kg_fr (gh223_ _ (Nat.ne_of_lt (tG_lt Wh218_ t205_ (by decide)))) e219_
  have e225_ := kg_fr (gh223_ _ (Nat.ne_of_lt (tG_lt Wh218_ t205_ (by decide)))) e220_
  have e226_ := kg_fr (gh223_ _ (Nat.ne_of_lt (tG_lt Wh218_ t207_ (by decide)))) e221_
  have e227_ := kg_fr (gh223_ _ (Nat.ne_of_lt (tG_lt Wh218_ t207_ (by decide)))) e222_
  have e228_ := (gh223_ _ (by omega)).trans eh218_'
  refine k_cA (by omega) (by omega) (by first | decide | exact fun _ q => q) (kX10_init (R := 0) Wh223_ (by omega) zh223_ eh223_  (by first | omega | assumption | decide) (by first | omega | assumption | decide)) (fun v230_ h229_ Gh229_ fh229_ qh229_ => ?_)
  have Wh229_ := fh229_.1
  have sh229_ := fh229_.2.1
  have th229_ := fh229_.2.2.1
  have uh229_ := fh229_.2.2.2.1
  have e231_ := kg_fr (fh229_.2.2.2.2.2 _ (tG_lt Wh223_ t205_ (by decide)) (tg_z t205_ (by decide) zh223_) (by rw [t205_.1, t205_.2]; first | decide | simp)) e224_
  have e232_ := kg_fr (fh229_.2.2.2.2.2 _ (tG_lt Wh223_ t205_ (by decide)) (tg_z t205_ (by decide) zh223_) (by rw [t205_.1, t205_.2]; first | decide | simp)) e225_
  have e233_ := kg_fr (fh229_.2.2.2.2.2 _ (tG_lt Wh223_ t207_ (by decide)) (tg_z t207_ (by decide) zh223_) (by rw [t207_.1, t207_.2]; first | decide | simp)) e226_
  have e234_ := kg_fr (fh229_.2.2.2.2.2 _ (tG_lt Wh223_ t207_ (by decide)) (tg_z t207_ (by decide) zh223_) (by rw [t207_.1, t207_.2]; first | decide | simp)) e227_
  have t235_ := tg_up fh229_ Wh223_ t205_ (by decide) (tg_z t205_ (by decide) zh223_)
  have t236_ := tg_up fh229_ Wh223_ t206_ (by decide) (tg_z t206_ (by decide) zh223_)
  have := tg_upl fh229_ Wh223_ t206_ (by decide) (tg_z t206_ (by decide) zh223_)
  have t237_ := tg_up fh229_ Wh223_ t207_ (by decide) (tg_z t207_ (by decide) zh223_)
  have t238_ := tg_up fh229_ Wh223_ t208_ (by decide) (tg_z t208_ (by decide) zh223_)
  have := tg_upl fh229_ Wh223_ t208_ (by decide) (tg_z t208_ (by decide) zh223_)
  have t239_ := tg_up fh229_ Wh223_ t209_ (by decide) (tg_z t209_ (by decide) zh223_)
  have t240_ := tg_up fh229_ Wh223_ t210_ (by decide) (tg_z t210_ (by decide) zh223_)
  have := tg_upl fh229_ Wh223_ t210_ (by decide) (tg_z t210_ (by decide) zh223_)
  have t241_ := tg_up fh229_ Wh223_ t211_ (by decide) (tg_z t211_ (by decide) zh223_)
  have t242_ := tg_up fh229_ Wh223_ t212_ (by decide) (tg_z t212_ (by decide) zh223_)
  have t243_ := tg_up fh229_ Wh223_ t213_ (by decide) (tg_z t213_ (by decide) zh223_)
  have t244_ := tg_up fh229_ Wh223_ t214_ (by decide) (tg_z t214_ (by decide) zh223_)
  have t245_ := tg_up fh229_ Wh223_ t215_ (by decide) (tg_z t215_ (by decide) zh223_)
  have := tg_upl fh229_ Wh223_ t215_ (by decide) (tg_z t215_ (by decide) zh223_)
  have t246_ := tg_up fh229_ Wh223_ qh199_ (by decide) (tg_z qh199_ (by decide) zh223_)
  have e247_ := (fh229_.2.2.2.2.2 _ (by omega) (by omega) (by rw [z217_]; simp)).trans e228_
  have z248_ : (Gh229_ a0).1 = 0 := by rw [fh229_.2.2.2.2.1 _ (by omega) (by omega)]; exact z217_
  refine k_raw Wh229_ z248_ (Or.inl rfl) e247_ (by first | decide | simp) (fun h249_ sh249_ uh249_ eh249_ gh249_ Wh249_ => ?_)
  have eh249_' : h249_.2.2 a0 = some (.inr (11, [sm_v (vR (some h.1)), sm_v (vR (some h6_.1)), sm_v (vR (some h20_.1)), sm_v (vR (some h43_.1)), sm_v (vR (some h60_.1)), sm_v (vR (some h85_.1)), sm_v (vR (some h111_.1)), sm_v (vR (some h138_.1)), sm_v (vR (some h166_.1)), sm_v (vR (some h188_.1)), sm_v (vR (some h218_.1)), .null, .null, .null, .int 0, .int 0, .long 0])) := eh249_
  have e250_ := kg_fr (gh249_ _ (tg_z t235_ (by decide) z248_)) e231_
  have e251_ := kg_fr (gh249_ _ (tg_z t235_ (by decide) z248_)) e232_
  have e252_ := kg_fr (gh249_ _ (tg_z t237_ (by decide) z248_)) e233_
  have e253_ := kg_fr (gh249_ _ (tg_z t237_ (by decide) z248_)) e234_
  refine k_new (n := 3) Wh249_ (by omega) rfl (fun h254_ sh254_ uh254_ eh254_ gh254_ Wh254_ zh254_ => ?_)
  have e255_ := kg_fr (gh254_ _ (Nat.ne_of_lt (tG_lt Wh249_ t235_ (by decide)))) e250_
  have e256_ := kg_fr (gh254_ _ (Nat.ne_of_lt (tG_lt Wh249_ t235_ (by decide)))) e251_
  have e257_ := kg_fr (gh254_ _ (Nat.ne_of_lt (tG_lt Wh249_ t237_ (by decide)))) e252_
  have e258_ := kg_fr (gh254_ _ (Nat.ne_of_lt (tG_lt Wh249_ t237_ (by decide)))) e253_
  have e259_ := (gh254_ _ (by omega)).trans eh249_'
  refine k_cA (by omega) (by omega) (by first | decide | exact fun _ q => q) (kX10_init (R := 0) Wh254_ (by omega) zh254_ eh254_  (by first | omega | assumption | decide) (by first | omega | assumption | decide)) (fun v261_ h260_ Gh260_ fh260_ qh260_ => ?_)
  have Wh260_ := fh260_.1
  have sh260_ := fh260_.2.1
  have th260_ := fh260_.2.2.1
  have uh260_ := fh260_.2.2.2.1
  have e262_ := kg_fr (fh260_.2.2.2.2.2 _ (tG_lt Wh254_ t235_ (by decide)) (tg_z t235_ (by decide) zh254_) (by rw [t235_.1, t235_.2]; first | decide | simp)) e255_
  have e263_ := kg_fr (fh260_.2.2.2.2.2 _ (tG_lt Wh254_ t235_ (by decide)) (tg_z t235_ (by decide) zh254_) (by rw [t235_.1, t235_.2]; first | decide | simp)) e256_
  have e264_ := kg_fr (fh260_.2.2.2.2.2 _ (tG_lt Wh254_ t237_ (by decide)) (tg_z t237_ (by decide) zh254_) (by rw [t237_.1, t237_.2]; first | decide | simp)) e257_
  have e265_ := kg_fr (fh260_.2.2.2.2.2 _ (tG_lt Wh254_ t237_ (by decide)) (tg_z t237_ (by decide) zh254_) (by rw [t237_.1, t237_.2]; first | decide | simp)) e258_
  have t266_ := tg_up fh260_ Wh254_ t235_ (by decide) (tg_z t235_ (by decide) zh254_)
  have t267_ := tg_up fh260_ Wh254_ t236_ (by decide) (tg_z t236_ (by decide) zh254_)
  have := tg_upl fh260_ Wh254_ t236_ (by decide) (tg_z t236_ (by decide) zh254_)
  have t268_ := tg_up fh260_ Wh254_ t237_ (by decide) (tg_z t237_ (by decide) zh254_)
  have t269_ := tg_up fh260_ Wh254_ t238_ (by decide) (tg_z t238_ (by decide) zh254_)
  have := tg_upl fh260_ Wh254_ t238_ (by decide) (tg_z t238_ (by decide) zh254_)
  have t270_ := tg_up fh260_ Wh254_ t239_ (by decide) (tg_z t239_ (by decide) zh254_)
  have t271_ := tg_up fh260_ Wh254_ t240_ (by decide) (tg_z t240_ (by decide) zh254_)
  have := tg_upl fh260_ Wh254_ t240_ (by decide) (tg_z t240_ (by decide) zh254_)
  have t272_ := tg_up fh260_ Wh254_ t241_ (by decide) (tg_z t241_ (by decide) zh254_)
  have t273_ := tg_up fh260_ Wh254_ t242_ (by decide) (tg_z t242_ (by decide) zh254_)
  have t274_ := tg_up fh260_ Wh254_ t243_ (by decide) (tg_z t243_ (by decide) zh254_)
  have t275_ := tg_up fh260_ Wh254_ t244_ (by decide) (tg_z t244_ (by decide) zh254_)
  have t276_ := tg_up fh260_ Wh254_ t245_ (by decide) (tg_z t245_ (by decide) zh254_)
  have := tg_upl fh260_ Wh254_ t245_ (by decide) (tg_z t245_ (by decide) zh254_)
  have t277_ := tg_up fh260_ Wh254_ t246_ (by decide) (tg_z t246_ (by decide) zh254_)
  have t278_ := tg_up fh260_ Wh254_ qh229_ (by decide) (tg_z qh229_ (by decide) zh254_)
  have e279_ := (fh260_.2.2.2.2.2 _ (by omega) (by omega) (by rw [z248_]; simp)).trans e259_
  have z280_ : (Gh260_ a0).1 = 0 := by rw [fh260_.2.2.2.2.1 _ (by omega) (by omega)]; exact z248_
  refine k_raw Wh260_ z280_ (Or.inl rfl) e279_ (by first | decide | simp) (fun h281_ sh281_ uh281_ eh281_ gh281_ Wh281_ => ?_)
  have eh281_' : h281_.2.2 a0 = some (.inr (11, [sm_v (vR (some h.1)), sm_v (vR (some h6_.1)), sm_v (vR (some h20_.1)), sm_v (vR (some h43_.1)), sm_v (vR (some h60_.1)), sm_v (vR (some h85_.1)), sm_v (vR (some h111_.1)), sm_v (vR (some h138_.1)), sm_v (vR (some h166_.1)), sm_v (vR (some h188_.1)), sm_v (vR (some h218_.1)), sm_v (vR (some h249_.1)), .null, .null, .int 0, .int 0, .long 0])) := eh281_
  have e282_ := kg_fr (gh281_ _ (tg_z t266_ (by decide) z280_)) e262_
  have e283_ := kg_fr (gh281_ _ (tg_z t266_ (by decide) z280_)) e263_
  have e284_ := kg_fr (gh281_ _ (tg_z t268_ (by decide) z280_)) e264_
  have e285_ := kg_fr (gh281_ _ (tg_z t268_ (by decide) z280_)) e265_
  refine k_new (n := 3) Wh281_ (by omega) rfl (fun h286_ sh286_ uh286_ eh286_ gh286_ Wh286_ zh286_ => ?_)
  have e287_ := kg_fr (gh286_ _ (Nat.ne_of_lt (tG_lt Wh281_ t266_ (by decide)))) e282_
  have e288_ := kg_fr (gh286_ _ (Nat.ne_of_lt (tG_lt Wh281_ t266_ (by decide)))) e283_
  have e289_ := kg_fr (gh286_ _ (Nat.ne_of_lt (tG_lt Wh281_ t268_ (by decide)))) e284_
  have e290_ := kg_fr (gh286_ _ (Nat.ne_of_lt (tG_lt Wh281_ t268_ (by decide)))) e285_
  have e291_ := (gh286_ _ (by omega)).trans eh281_'
  refine k_cA (by omega) (by omega) (by first | decide | exact fun _ q => q) (kX10_init (R := 0) Wh286_ (by omega) zh286_ eh286_  (by first | omega | assumption | decide) (by first | omega | assumption | decide)) (fun v293_ h292_ Gh292_ fh292_ qh292_ => ?_)
  have Wh292_ := fh292_.1
  have sh292_ := fh292_.2.1
  have th292_ := fh292_.2.2.1
  have uh292_ := fh292_.2.2.2.1
  have e294_ := kg_fr (fh292_.2.2.2.2.2 _ (tG_lt Wh286_ t266_ (by decide)) (tg_z t266_ (by decide) zh286_) (by rw [t266_.1, t266_.2]; first | decide | simp)) e287_
  have e295_ := kg_fr (fh292_.2.2.2.2.2 _ (tG_lt Wh286_ t266_ (by decide)) (tg_z t266_ (by decide) zh286_) (by rw [t266_.1, t266_.2]; first | decide | simp)) e288_
  have e296_ := kg_fr (fh292_.2.2.2.2.2 _ (tG_lt Wh286_ t268_ (by decide)) (tg_z t268_ (by decide) zh286_) (by rw [t268_.1, t268_.2]; first | decide | simp)) e289_
  have e297_ := kg_fr (fh292_.2.2.2.2.2 _ (tG_lt Wh286_ t268_ (by decide)) (tg_z t268_ (by decide) zh286_) (by rw [t268_.1, t268_.2]; first | decide | simp)) e290_
  have t298_ := tg_up fh292_ Wh286_ t266_ (by decide) (tg_z t266_ (by decide) zh286_)
  have t299_ := tg_up fh292_ Wh286_ t267_ (by decide) (tg_z t267_ (by decide) zh286_)
  have := tg_upl fh292_ Wh286_ t267_ (by decide) (tg_z t267_ (by decide) zh286_)
  have t300_ := tg_up fh292_ Wh286_ t268_ (by decide) (tg_z t268_ (by decide) zh286_)
  have t301_ := tg_up fh292_ Wh286_ t269_ (by decide) (tg_z t269_ (by decide) zh286_)
  have := tg_upl fh292_ Wh286_ t269_ (by decide) (tg_z t269_ (by decide) zh286_)
  have t302_ := tg_up fh292_ Wh286_ t270_ (by decide) (tg_z t270_ (by decide) zh286_)
  have t303_ := tg_up fh292_ Wh286_ t271_ (by decide) (tg_z t271_ (by decide) zh286_)
  have := tg_upl fh292_ Wh286_ t271_ (by decide) (tg_z t271_ (by decide) zh286_)
  have t304_ := tg_up fh292_ Wh286_ t272_ (by decide) (tg_z t272_ (by decide) zh286_)
  have t305_ := tg_up fh292_ Wh286_ t273_ (by decide) (tg_z t273_ (by decide) zh286_)
  have t306_ := tg_up fh292_ Wh286_ t274_ (by decide) (tg_z t274_ (by decide) zh286_)
  have t307_ := tg_up fh292_ Wh286_ t275_ (by decide) (tg_z t275_ (by decide) zh286_)
  have t308_ := tg_up fh292_ Wh286_ t276_ (by decide) (tg_z t276_ (by decide) zh286_)
  have := tg_upl fh292_ Wh286_ t276_ (by decide) (tg_z t276_ (by decide) zh286_)
  have t309_ := tg_up fh292_ Wh286_ t277_ (by decide) (tg_z t277_ (by decide) zh286_)
  have t310_ := tg_up fh292_ Wh286_ t278_ (by decide) (tg_z t278_ (by decide) zh286_)
  have t311_ := tg_up fh292_ Wh286_ qh260_ (by decide) (tg_z qh260_ (by decide) zh286_)
  have e312_ := (fh292_.2.2.2.2.2 _ (by omega) (by omega) (by rw [z280_]; simp)).trans e291_
  have z313_ : (Gh292_ a0).1 = 0 := by rw [fh292_.2.2.2.2.1 _ (by omega) (by omega)]; exact z280_
  refine k_raw Wh292_ z313_ (Or.inl rfl) e312_ (by first | decide | simp) (fun h314_ sh314_ uh314_ eh314_ gh314_ Wh314_ => ?_)
  have eh314_' : h314_.2.2 a0 = some (.inr (11, [sm_v (vR (some h.1)), sm_v (vR (some h6_.1)), sm_v (vR (some h20_.1)), sm_v (vR (some h43_.1)), sm_v (vR (some h60_.1)), sm_v (vR (some h85_.1)), sm_v (vR (some h111_.1)), sm_v (vR (some h138_.1)), sm_v (vR (some h166_.1)), sm_v (vR (some h188_.1)), sm_v (vR (some h218_.1)), sm_v (vR (some h249_.1)), sm_v (vR (some h281_.1)), .null, .int 0, .int 0, .long 0])) := eh314_
  have e315_ := kg_fr (gh314_ _ (tg_z t298_ (by decide) z313_)) e294_
  have e316_ := kg_fr (gh314_ _ (tg_z t298_ (by decide) z313_)) e295_
  have e317_ := kg_fr (gh314_ _ (tg_z t300_ (by decide) z313_)) e296_
  have e318_ := kg_fr (gh314_ _ (tg_z t300_ (by decide) z313_)) e297_
  refine k_new (n := 3) Wh314_ (by omega) rfl (fun h319_ sh319_ uh319_ eh319_ gh319_ Wh319_ zh319_ => ?_)
  have e320_ := kg_fr (gh319_ _ (Nat.ne_of_lt (tG_lt Wh314_ t298_ (by decide)))) e315_
  have e321_ := kg_fr (gh319_ _ (Nat.ne_of_lt (tG_lt Wh314_ t298_ (by decide)))) e316_
  have e322_ := kg_fr (gh319_ _ (Nat.ne_of_lt (tG_lt Wh314_ t300_ (by decide)))) e317_
  have e323_ := kg_fr (gh319_ _ (Nat.ne_of_lt (tG_lt Wh314_ t300_ (by decide)))) e318_
  have e324_ := (gh319_ _ (by omega)).trans eh314_'
  refine k_cA (by omega) (by omega) (by first | decide | exact fun _ q => q) (kX10_init (R := 0) Wh319_ (by omega) zh319_ eh319_  (by first | omega | assumption | decide) (by first | omega | assumption | decide)) (fun v326_ h325_ Gh325_ fh325_ qh325_ => ?_)
  have Wh325_ := fh325_.1
  have sh325_ := fh325_.2.1
  have th325_ := fh325_.2.2.1
  have uh325_ := fh325_.2.2.2.1
  have e327_ := kg_fr (fh325_.2.2.2.2.2 _ (tG_lt Wh319_ t298_ (by decide)) (tg_z t298_ (by decide) zh319_) (by rw [t298_.1, t298_.2]; first | decide | simp)) e320_
  have e328_ := kg_fr (fh325_.2.2.2.2.2 _ (tG_lt Wh319_ t298_ (by decide)) (tg_z t298_ (by decide) zh319_) (by rw [t298_.1, t298_.2]; first | decide | simp)) e321_
  have e329_ := kg_fr (fh325_.2.2.2.2.2 _ (tG_lt Wh319_ t300_ (by decide)) (tg_z t300_ (by decide) zh319_) (by rw [t300_.1, t300_.2]; first | decide | simp)) e322_
  have e330_ := kg_fr (fh325_.2.2.2.2.2 _ (tG_lt Wh319_ t300_ (by decide)) (tg_z t300_ (by decide) zh319_) (by rw [t300_.1, t300_.2]; first | decide | simp)) e323_
  have t331_ := tg_up fh325_ Wh319_ t298_ (by decide) (tg_z t298_ (by decide) zh319_)
  have t332_ := tg_up fh325_ Wh319_ t299_ (by decide) (tg_z t299_ (by decide) zh319_)
  have := tg_upl fh325_ Wh319_ t299_ (by decide) (tg_z t299_ (by decide) zh319_)
  have t333_ := tg_up fh325_ Wh319_ t300_ (by decide) (tg_z t300_ (by decide) zh319_)
  have t334_ := tg_up fh325_ Wh319_ t301_ (by decide) (tg_z t301_ (by decide) zh319_)
  have := tg_upl fh325_ Wh319_ t301_ (by decide) (tg_z t301_ (by decide) zh319_)
  have t335_ := tg_up fh325_ Wh319_ t302_ (by decide) (tg_z t302_ (by decide) zh319_)
  have t336_ := tg_up fh325_ Wh319_ t303_ (by decide) (tg_z t303_ (by decide) zh319_)
  have := tg_upl fh325_ Wh319_ t303_ (by decide) (tg_z t303_ (by decide) zh319_)
  have t337_ := tg_up fh325_ Wh319_ t304_ (by decide) (tg_z t304_ (by decide) zh319_)
  have t338_ := tg_up fh325_ Wh319_ t305_ (by decide) (tg_z t305_ (by decide) zh319_)
  have t339_ := tg_up fh325_ Wh319_ t306_ (by decide) (tg_z t306_ (by decide) zh319_)
  have t340_ := tg_up fh325_ Wh319_ t307_ (by decide) (tg_z t307_ (by decide) zh319_)
  have t341_ := tg_up fh325_ Wh319_ t308_ (by decide) (tg_z t308_ (by decide) zh319_)
  have := tg_upl fh325_ Wh319_ t308_ (by decide) (tg_z t308_ (by decide) zh319_)
  have t342_ := tg_up fh325_ Wh319_ t309_ (by decide) (tg_z t309_ (by decide) zh319_)
  have t343_ := tg_up fh325_ Wh319_ t310_ (by decide) (tg_z t310_ (by decide) zh319_)
  have t344_ := tg_up fh325_ Wh319_ t311_ (by decide) (tg_z t311_ (by decide) zh319_)
  have t345_ := tg_up fh325_ Wh319_ qh292_ (by decide) (tg_z qh292_ (by decide) zh319_)
  have e346_ := (fh325_.2.2.2.2.2 _ (by omega) (by omega) (by rw [z313_]; simp)).trans e324_
  have z347_ : (Gh325_ a0).1 = 0 := by rw [fh325_.2.2.2.2.1 _ (by omega) (by omega)]; exact z313_
  refine k_raw Wh325_ z347_ (Or.inl rfl) e346_ (by first | decide | simp) (fun h348_ sh348_ uh348_ eh348_ gh348_ Wh348_ => ?_)
  have eh348_' : h348_.2.2 a0 = some (.inr (11, [sm_v (vR (some h.1)), sm_v (vR (some h6_.1)), sm_v (vR (some h20_.1)), sm_v (vR (some h43_.1)), sm_v (vR (some h60_.1)), sm_v (vR (some h85_.1)), sm_v (vR (some h111_.1)), sm_v (vR (some h138_.1)), sm_v (vR (some h166_.1)), sm_v (vR (some h188_.1)), sm_v (vR (some h218_.1)), sm_v (vR (some h249_.1)), sm_v (vR (some h281_.1)), sm_v (vR (some h314_.1)), .int 0, .int 0, .long 0])) := eh348_
  have e349_ := kg_fr (gh348_ _ (tg_z t331_ (by decide) z347_)) e327_
  have e350_ := kg_fr (gh348_ _ (tg_z t331_ (by decide) z347_)) e328_
  have e351_ := kg_fr (gh348_ _ (tg_z t333_ (by decide) z347_)) e329_
  have e352_ := kg_fr (gh348_ _ (tg_z t333_ (by decide) z347_)) e330_
  refine k_raw Wh348_ z347_ (Or.inl rfl) eh348_' (by first | decide | simp) (fun h353_ sh353_ uh353_ eh353_ gh353_ Wh353_ => ?_)
  have eh353_' : h353_.2.2 a0 = some (.inr (11, [sm_v (vR (some h.1)), sm_v (vR (some h6_.1)), sm_v (vR (some h20_.1)), sm_v (vR (some h43_.1)), sm_v (vR (some h60_.1)), sm_v (vR (some h85_.1)), sm_v (vR (some h111_.1)), sm_v (vR (some h138_.1)), sm_v (vR (some h166_.1)), sm_v (vR (some h188_.1)), sm_v (vR (some h218_.1)), sm_v (vR (some h249_.1)), sm_v (vR (some h281_.1)), sm_v (vR (some h314_.1)), .int 0, sm_v (vI (484 : Int32)), .long 0])) := eh353_
  have e354_ := kg_fr (gh353_ _ (tg_z t331_ (by decide) z347_)) e349_
  have e355_ := kg_fr (gh353_ _ (tg_z t331_ (by decide) z347_)) e350_
  have e356_ := kg_fr (gh353_ _ (tg_z t333_ (by decide) z347_)) e351_
  have e357_ := kg_fr (gh353_ _ (tg_z t333_ (by decide) z347_)) e352_
  exact k_rN (ci := 11) (r := 0) Wh353_ z347_ (by omega) (by decide) eh353_' ⟨⟨some h.1, rfl, fun _ => by simp, tN_s t331_⟩, ⟨some h6_.1, rfl, fun _ => by simp, tN_s t333_⟩, ⟨some h20_.1, rfl, fun _ => by simp, tN_s t335_⟩, ⟨some h43_.1, rfl, fun _ => by simp, tN_s t336_⟩, ⟨some h60_.1, rfl, fun _ => by simp, tN_s t337_⟩, ⟨some h85_.1, rfl, fun _ => by simp, tN_s t338_⟩, ⟨some h111_.1, rfl, fun _ => by simp, tN_s t339_⟩, ⟨some h138_.1, rfl, fun _ => by simp, tN_s t340_⟩, ⟨some h166_.1, rfl, fun _ => by simp, tN_s t341_⟩, ⟨some h188_.1, rfl, fun _ => by simp, tN_s t342_⟩, ⟨some h218_.1, rfl, fun _ => by simp, tN_s t343_⟩, ⟨some h249_.1, rfl, fun _ => by simp, tN_s t344_⟩, ⟨some h281_.1, rfl, fun _ => by simp, tN_s t345_⟩, ⟨some h314_.1, rfl, fun _ => by simp, tN_s qh325_⟩, ⟨_, rfl, i_lo _, i_hi _⟩, ⟨_, rfl, i_lo _, i_hi _⟩, ⟨_, rfl⟩, trivial⟩ (by omega) (by omega) (fun _ g t _ => ⟨t, ⟨h.1, it0, ⟨by rw [pu_get eh353_']; rfl, e354_, e355_⟩, tg_nw g (tg_z t331_ (by decide) z347_) t331_, tg_nw g (tg_z t332_ (by decide) z347_) t332_, by rw [g _ (tg_z t332_ (by decide) z347_)]; omega⟩, ⟨h6_.1, it1, ⟨by rw [pu_get eh353_']; rfl, e356_, e357_⟩, tg_nw g (tg_z t333_ (by decide) z347_) t333_, tg_nw g (tg_z t334_ (by decide) z347_) t334_, by rw [g _ (tg_z t334_ (by decide) z347_)]; omega⟩, by rw [pu_get eh353_']; rfl, by rw [pu_get eh353_']; rfl⟩)
