theorem kce_fr {h h1 : sm_H} {a : Nat} {q : Option sm_E} (f : h1.2.2 a = h.2.2 a) (e : h.2.2 a = q) : h1.2.2 a = q := f.trans e
theorem k_nwaS {Rt : Type} {G : GT} {h : sm_H} {N x M1 M2 tt n ρ : Nat} {E : List (Nat × Nat)} {Q : GT → Rt → sm_H → Prop} {d : (Nat → Int32) ⊕ (Nat → Int64) ⊕ (Nat → UInt32) ⊕ (Nat → UInt64) ⊕ (Nat → Option Nat)} {X : sm_H → Option (Rt × sm_H)} (W : Wf G h) (hN : N ≤ h.1) (ht : tt < 10) (hn : n ≤ aB (20 + tt)) (hd : ∀ G', dok G' (20 + tt) d) (kk : ∀ h1 G1, h1.1 = h.1 + 1 → h1.2.1 = h.2.1 + n → (∀ b, b ≠ h.1 → h1.2.2 b = h.2.2 b) → (∀ b, b ≠ h.1 → G1 b = G b) → Wf G1 h1 → tG G1 h.1 (20 + tt) ρ → (G1 h.1).2.1 = n → h1.2.2 h.1 = some (.inl (tt, n, d)) → kJ (RA N x E M1 M2 G1 h1 Q) (X h1)) : kJ (RA N x E M1 M2 G h Q) (sm_let (sm_nwa h tt n d) X) := by
  have hf : ∀ b, b ≠ h.1 → (sm_nwa h tt n d).2.2 b = h.2.2 b := fun b hb => by simp [sm_nwa, va_up, hb]
  have hg : ∀ b, b ≠ h.1 → (fun b => if b = h.1 then (20 + tt, n, ρ) else G b) b = G b := fun b hb => by simp [hb]
  refine k_st (h1 := sm_nwa h tt n d) (G1 := fun b => if b = h.1 then (20 + tt, n, ρ) else G b) (by simp [sm_nwa]) (fun b p1 p2 => hg b (by omega)) (fun b p1 p2 _ => hf b (by omega)) ?_
  refine kk _ _ rfl rfl hf hg (fun b hb => ?_) (by simp [tG]) (by simp) (by simp [sm_nwa, va_up])
  by_cases hb2 : b = h.1
  · subst hb2
    refine ⟨by simp [sm_nwa], _, by simp [sm_nwa, va_up]; rfl, ?_⟩
    simp only [if_pos rfl]
    unfold okc
    rw [if_neg (by simp)]
    exact ⟨by simp; omega, d, by simp, hn, hd _⟩
  · simp only [if_neg hb2] at hb ⊢
    obtain ⟨p1, e, p2, p3⟩ := W b hb
    refine ⟨by simp [sm_nwa]; omega, e, by rw [hf b hb2]; exact p2, okm (fun b' hb' => hg b' ?_) p3⟩
    have := (W b' hb').1; omega

set_option maxHeartbeats 4000000 in
theorem kXC11_init {G : GT} {a0 : Nat} {h : sm_H} (Wh : Wf G h) (l_a0 : a0 < h.1) (z_a0 : (G a0).1 = 0) (e_a0 : h.2.2 a0 = some (.inr (11, [.null, .null, .null, .null, .null, .null, .null, .null, .null, .null, .null, .null, .null, .null, .int 0, .int 0, .long 0]))) : kJ (RA h.1 a0 [(27, 0)] (h.1 + 400) (h.2.1 + 12000) G h (fun (G : GT) (_ : Unit) (h' : sm_H) => tG G a0 12 0 ∧ (∃ tp it, CH 0 h' a0 tp it 0 ∧ tG G tp 1 1 ∧ tG G it 21 1 ∧ (G it).2.1 = 1200) ∧ (∃ tp it, CH 1 h' a0 tp it 0 ∧ tG G tp 1 2 ∧ tG G it 21 2 ∧ (G it).2.1 = 16) ∧ ∃ ca, sm_get h' (some a0) 11 3 = some (va_rf (some ca)) ∧ sm_get h' (some a0) 11 14 = some (.int 0) ∧ h'.2.2 ca = some (.inl (6, 8, .inr (.inr (.inr (.inr (fun _ => none)))))))) (fX11_init a0 h) := by
  have L0 : (0 : Int32).toInt = 0 := rfl
  have L1 : (1 : Int32).toInt = 1 := rfl
  have L8 : (8 : Int32).toInt = 8 := rfl
  have L16 : (16 : Int32).toInt = 16 := rfl
  have L67 : (67 : Int32).toInt = 67 := rfl
  have L128 : (128 : Int32).toInt = 128 := rfl
  have L129 : (129 : Int32).toInt = 129 := rfl
  have L130 : (130 : Int32).toInt = 130 := rfl
  have L484 : (484 : Int32).toInt = 484 := rfl
  have L1200 : (1200 : Int32).toInt = 1200 := rfl
  unfold fX11_init
  refine k_new (n := 2) Wh (by omega) rfl (fun h1_ sh1_ uh1_ eh1_ gh1_ Wh1_ zh1_ => ?_)
  have e2_ := (gh1_ _ (by omega)).trans e_a0
  refine k_cA (by omega) (by omega) (by first | decide | exact fun _ q => q) (kX0_initS (ρ := 1) (R := 1200) Wh1_ (by omega) zh1_ eh1_ (by omega) (by omega)) (fun _ h3_ Gh3_ fh3_ qh3_ => ?_)
  have Wh3_ := fh3_.1
  have sh3_ := fh3_.2.1
  have th3_ := fh3_.2.2.1
  have uh3_ := fh3_.2.2.2.1
  obtain ⟨qh3_a, it0, eh3_0, th3_i, lh3_i, eh3_1⟩ := qh3_
  have e4_ := (fh3_.2.2.2.2.2 _ (by omega) (by omega) (by rw [z_a0]; simp)).trans e2_
  have z5_ : (Gh3_ a0).1 = 0 := by rw [fh3_.2.2.2.2.1 _ (by omega) (by omega)]; exact z_a0
  refine k_raw Wh3_ z5_ (Or.inl rfl) e4_ (by first | decide | simp) (fun h6_ sh6_ uh6_ eh6_ gh6_ Wh6_ => ?_)
  have eh6_' : h6_.2.2 a0 = some (.inr (11, [sm_v (vR (some h.1)), .null, .null, .null, .null, .null, .null, .null, .null, .null, .null, .null, .null, .null, .int 0, .int 0, .long 0])) := eh6_
  have e7_ := kg_fr (gh6_ _ (tg_z qh3_a (by decide) z5_)) eh3_0
  have e8_ := kg_fr (gh6_ _ (tg_z qh3_a (by decide) z5_)) eh3_1
  refine k_new (n := 2) Wh6_ (by omega) rfl (fun h9_ sh9_ uh9_ eh9_ gh9_ Wh9_ zh9_ => ?_)
  have e10_ := kg_fr (gh9_ _ (Nat.ne_of_lt (tG_lt Wh6_ qh3_a (by decide)))) e7_
  have e11_ := kg_fr (gh9_ _ (Nat.ne_of_lt (tG_lt Wh6_ qh3_a (by decide)))) e8_
  have e12_ := (gh9_ _ (by omega)).trans eh6_'
  refine k_cA (by omega) (by omega) (by first | decide | exact fun _ q => q) (kX0_initS (ρ := 2) (R := 16) Wh9_ (by omega) zh9_ eh9_ (by omega) (by omega)) (fun _ h13_ Gh13_ fh13_ qh13_ => ?_)
  have Wh13_ := fh13_.1
  have sh13_ := fh13_.2.1
  have th13_ := fh13_.2.2.1
  have uh13_ := fh13_.2.2.2.1
  obtain ⟨qh13_a, it1, eh13_0, th13_i, lh13_i, eh13_1⟩ := qh13_
  have e14_ := kg_fr (fh13_.2.2.2.2.2 _ (tG_lt Wh9_ qh3_a (by decide)) (tg_z qh3_a (by decide) zh9_) (by rw [qh3_a.1, qh3_a.2]; first | decide | simp)) e10_
  have e15_ := kg_fr (fh13_.2.2.2.2.2 _ (tG_lt Wh9_ qh3_a (by decide)) (tg_z qh3_a (by decide) zh9_) (by rw [qh3_a.1, qh3_a.2]; first | decide | simp)) e11_
  have t16_ := tg_up fh13_ Wh9_ qh3_a (by decide) (tg_z qh3_a (by decide) zh9_)
  have t17_ := tg_up fh13_ Wh9_ th3_i (by decide) (tg_z th3_i (by decide) zh9_)
  have := tg_upl fh13_ Wh9_ th3_i (by decide) (tg_z th3_i (by decide) zh9_)
  have e18_ := (fh13_.2.2.2.2.2 _ (by omega) (by omega) (by rw [z5_]; simp)).trans e12_
  have z19_ : (Gh13_ a0).1 = 0 := by rw [fh13_.2.2.2.2.1 _ (by omega) (by omega)]; exact z5_
  refine k_raw Wh13_ z19_ (Or.inl rfl) e18_ (by first | decide | simp) (fun h20_ sh20_ uh20_ eh20_ gh20_ Wh20_ => ?_)
  have eh20_' : h20_.2.2 a0 = some (.inr (11, [sm_v (vR (some h.1)), sm_v (vR (some h6_.1)), .null, .null, .null, .null, .null, .null, .null, .null, .null, .null, .null, .null, .int 0, .int 0, .long 0])) := eh20_
  have e21_ := kg_fr (gh20_ _ (tg_z t16_ (by decide) z19_)) e14_
  have e22_ := kg_fr (gh20_ _ (tg_z t16_ (by decide) z19_)) e15_
  have e23_ := kg_fr (gh20_ _ (tg_z qh13_a (by decide) z19_)) eh13_0
  have e24_ := kg_fr (gh20_ _ (tg_z qh13_a (by decide) z19_)) eh13_1
  refine k_new (n := 5) Wh20_ (by omega) rfl (fun h25_ sh25_ uh25_ eh25_ gh25_ Wh25_ zh25_ => ?_)
  have e26_ := kg_fr (gh25_ _ (Nat.ne_of_lt (tG_lt Wh20_ t16_ (by decide)))) e21_
  have e27_ := kg_fr (gh25_ _ (Nat.ne_of_lt (tG_lt Wh20_ t16_ (by decide)))) e22_
  have e28_ := kg_fr (gh25_ _ (Nat.ne_of_lt (tG_lt Wh20_ qh13_a (by decide)))) e23_
  have e29_ := kg_fr (gh25_ _ (Nat.ne_of_lt (tG_lt Wh20_ qh13_a (by decide)))) e24_
  have e30_ := (gh25_ _ (by omega)).trans eh20_'
  refine k_cA (by omega) (by omega) (by first | decide | exact fun _ q => q) (kX9_init Wh25_ (by omega) zh25_ eh25_ ) (fun v32_ h31_ Gh31_ fh31_ qh31_ => ?_)
  have Wh31_ := fh31_.1
  have sh31_ := fh31_.2.1
  have th31_ := fh31_.2.2.1
  have uh31_ := fh31_.2.2.2.1
  have e33_ := kg_fr (fh31_.2.2.2.2.2 _ (tG_lt Wh25_ t16_ (by decide)) (tg_z t16_ (by decide) zh25_) (by rw [t16_.1, t16_.2]; first | decide | simp)) e26_
  have e34_ := kg_fr (fh31_.2.2.2.2.2 _ (tG_lt Wh25_ t16_ (by decide)) (tg_z t16_ (by decide) zh25_) (by rw [t16_.1, t16_.2]; first | decide | simp)) e27_
  have e35_ := kg_fr (fh31_.2.2.2.2.2 _ (tG_lt Wh25_ qh13_a (by decide)) (tg_z qh13_a (by decide) zh25_) (by rw [qh13_a.1, qh13_a.2]; first | decide | simp)) e28_
  have e36_ := kg_fr (fh31_.2.2.2.2.2 _ (tG_lt Wh25_ qh13_a (by decide)) (tg_z qh13_a (by decide) zh25_) (by rw [qh13_a.1, qh13_a.2]; first | decide | simp)) e29_
  have t37_ := tg_up fh31_ Wh25_ t16_ (by decide) (tg_z t16_ (by decide) zh25_)
  have t38_ := tg_up fh31_ Wh25_ t17_ (by decide) (tg_z t17_ (by decide) zh25_)
  have := tg_upl fh31_ Wh25_ t17_ (by decide) (tg_z t17_ (by decide) zh25_)
  have t39_ := tg_up fh31_ Wh25_ qh13_a (by decide) (tg_z qh13_a (by decide) zh25_)
  have t40_ := tg_up fh31_ Wh25_ th13_i (by decide) (tg_z th13_i (by decide) zh25_)
  have := tg_upl fh31_ Wh25_ th13_i (by decide) (tg_z th13_i (by decide) zh25_)
  have e41_ := (fh31_.2.2.2.2.2 _ (by omega) (by omega) (by rw [z19_]; simp)).trans e30_
  have z42_ : (Gh31_ a0).1 = 0 := by rw [fh31_.2.2.2.2.1 _ (by omega) (by omega)]; exact z19_
  refine k_raw Wh31_ z42_ (Or.inl rfl) e41_ (by first | decide | simp) (fun h43_ sh43_ uh43_ eh43_ gh43_ Wh43_ => ?_)
  have eh43_' : h43_.2.2 a0 = some (.inr (11, [sm_v (vR (some h.1)), sm_v (vR (some h6_.1)), sm_v (vR (some h20_.1)), .null, .null, .null, .null, .null, .null, .null, .null, .null, .null, .null, .int 0, .int 0, .long 0])) := eh43_
  have e44_ := kg_fr (gh43_ _ (tg_z t37_ (by decide) z42_)) e33_
  have e45_ := kg_fr (gh43_ _ (tg_z t37_ (by decide) z42_)) e34_
  have e46_ := kg_fr (gh43_ _ (tg_z t39_ (by decide) z42_)) e35_
  have e47_ := kg_fr (gh43_ _ (tg_z t39_ (by decide) z42_)) e36_
  rw [if_neg (by decide)]
  try rw [show ((8 : Int32)).toNatClampNeg = 8 from rfl]
  refine k_nwaS (ρ := 0) Wh43_ (by omega) (by decide) (by decide) (dk_R 6 (by decide)) (fun h48_ Gh48_ sh48_ uh48_ gh48_ kh48_ Wh48_ th48_ lh48_ ch48_ => ?_)
  have e49_ := kg_fr (gh48_ _ (Nat.ne_of_lt (tG_lt Wh43_ t37_ (by decide)))) e44_
  have e50_ := kg_fr (gh48_ _ (Nat.ne_of_lt (tG_lt Wh43_ t37_ (by decide)))) e45_
  have e51_ := kg_fr (gh48_ _ (Nat.ne_of_lt (tG_lt Wh43_ t39_ (by decide)))) e46_
  have e52_ := kg_fr (gh48_ _ (Nat.ne_of_lt (tG_lt Wh43_ t39_ (by decide)))) e47_
  have t53_ := tg_nw kh48_ (Nat.ne_of_lt (tG_lt Wh43_ t37_ (by decide))) t37_
  have t54_ := tg_nw kh48_ (Nat.ne_of_lt (tG_lt Wh43_ t38_ (by decide))) t38_
  have := congrArg (fun z => z.2.1) (kh48_ _ (Nat.ne_of_lt (tG_lt Wh43_ t38_ (by decide))))
  try simp only at this
  have t55_ := tg_nw kh48_ (Nat.ne_of_lt (tG_lt Wh43_ t39_ (by decide))) t39_
  have t56_ := tg_nw kh48_ (Nat.ne_of_lt (tG_lt Wh43_ t40_ (by decide))) t40_
  have := congrArg (fun z => z.2.1) (kh48_ _ (Nat.ne_of_lt (tG_lt Wh43_ t40_ (by decide))))
  try simp only at this
  have t57_ := tg_nw kh48_ (Nat.ne_of_lt (tG_lt Wh43_ qh31_ (by decide))) qh31_
  have e58_ := (gh48_ _ (by omega)).trans eh43_'
  have z59_ : (Gh48_ a0).1 = 0 := by rw [kh48_ _ (by omega)]; exact z42_
  refine k_raw Wh48_ z59_ (Or.inl rfl) e58_ (by first | decide | simp) (fun h60_ sh60_ uh60_ eh60_ gh60_ Wh60_ => ?_)
  have eh60_' : h60_.2.2 a0 = some (.inr (11, [sm_v (vR (some h.1)), sm_v (vR (some h6_.1)), sm_v (vR (some h20_.1)), sm_v (vR (some h43_.1)), .null, .null, .null, .null, .null, .null, .null, .null, .null, .null, .int 0, .int 0, .long 0])) := eh60_
  have e61_ := kg_fr (gh60_ _ (tg_z t53_ (by decide) z59_)) e49_
  have e62_ := kg_fr (gh60_ _ (tg_z t53_ (by decide) z59_)) e50_
  have e63_ := kg_fr (gh60_ _ (tg_z t55_ (by decide) z59_)) e51_
  have e64_ := kg_fr (gh60_ _ (tg_z t55_ (by decide) z59_)) e52_
  have e65_ := kce_fr (gh60_ _ (tg_z th48_ (by decide) z59_)) ch48_
  refine k_new (n := 9) Wh60_ (by omega) rfl (fun h66_ sh66_ uh66_ eh66_ gh66_ Wh66_ zh66_ => ?_)
  have e67_ := kg_fr (gh66_ _ (Nat.ne_of_lt (tG_lt Wh60_ t53_ (by decide)))) e61_
  have e68_ := kg_fr (gh66_ _ (Nat.ne_of_lt (tG_lt Wh60_ t53_ (by decide)))) e62_
  have e69_ := kg_fr (gh66_ _ (Nat.ne_of_lt (tG_lt Wh60_ t55_ (by decide)))) e63_
  have e70_ := kg_fr (gh66_ _ (Nat.ne_of_lt (tG_lt Wh60_ t55_ (by decide)))) e64_
  have e71_ := kce_fr (gh66_ _ (Nat.ne_of_lt (tG_lt Wh60_ th48_ (by decide)))) e65_
  have e72_ := (gh66_ _ (by omega)).trans eh60_'
  refine k_cA (by omega) (by omega) (by first | decide | exact fun _ q => q) (kX3_init Wh66_ (by omega) zh66_ eh66_ ) (fun v74_ h73_ Gh73_ fh73_ qh73_ => ?_)
  have Wh73_ := fh73_.1
  have sh73_ := fh73_.2.1
  have th73_ := fh73_.2.2.1
  have uh73_ := fh73_.2.2.2.1
  have e75_ := kg_fr (fh73_.2.2.2.2.2 _ (tG_lt Wh66_ t53_ (by decide)) (tg_z t53_ (by decide) zh66_) (by rw [t53_.1, t53_.2]; first | decide | simp)) e67_
  have e76_ := kg_fr (fh73_.2.2.2.2.2 _ (tG_lt Wh66_ t53_ (by decide)) (tg_z t53_ (by decide) zh66_) (by rw [t53_.1, t53_.2]; first | decide | simp)) e68_
  have e77_ := kg_fr (fh73_.2.2.2.2.2 _ (tG_lt Wh66_ t55_ (by decide)) (tg_z t55_ (by decide) zh66_) (by rw [t55_.1, t55_.2]; first | decide | simp)) e69_
  have e78_ := kg_fr (fh73_.2.2.2.2.2 _ (tG_lt Wh66_ t55_ (by decide)) (tg_z t55_ (by decide) zh66_) (by rw [t55_.1, t55_.2]; first | decide | simp)) e70_
  have e79_ := kce_fr (fh73_.2.2.2.2.2 _ (tG_lt Wh66_ th48_ (by decide)) (tg_z th48_ (by decide) zh66_) (by rw [th48_.1, th48_.2]; first | decide | simp)) e71_
  have t80_ := tg_up fh73_ Wh66_ t53_ (by decide) (tg_z t53_ (by decide) zh66_)
  have t81_ := tg_up fh73_ Wh66_ t54_ (by decide) (tg_z t54_ (by decide) zh66_)
  have := tg_upl fh73_ Wh66_ t54_ (by decide) (tg_z t54_ (by decide) zh66_)
  have t82_ := tg_up fh73_ Wh66_ t55_ (by decide) (tg_z t55_ (by decide) zh66_)
  have t83_ := tg_up fh73_ Wh66_ t56_ (by decide) (tg_z t56_ (by decide) zh66_)
  have := tg_upl fh73_ Wh66_ t56_ (by decide) (tg_z t56_ (by decide) zh66_)
  have t84_ := tg_up fh73_ Wh66_ t57_ (by decide) (tg_z t57_ (by decide) zh66_)
  have t85_ := tg_up fh73_ Wh66_ th48_ (by decide) (tg_z th48_ (by decide) zh66_)
  have := tg_upl fh73_ Wh66_ th48_ (by decide) (tg_z th48_ (by decide) zh66_)
  have e86_ := (fh73_.2.2.2.2.2 _ (by omega) (by omega) (by rw [z59_]; simp)).trans e72_
  have z87_ : (Gh73_ a0).1 = 0 := by rw [fh73_.2.2.2.2.1 _ (by omega) (by omega)]; exact z59_
  refine k_raw Wh73_ z87_ (Or.inl rfl) e86_ (by first | decide | simp) (fun h88_ sh88_ uh88_ eh88_ gh88_ Wh88_ => ?_)
  have eh88_' : h88_.2.2 a0 = some (.inr (11, [sm_v (vR (some h.1)), sm_v (vR (some h6_.1)), sm_v (vR (some h20_.1)), sm_v (vR (some h43_.1)), sm_v (vR (some h60_.1)), .null, .null, .null, .null, .null, .null, .null, .null, .null, .int 0, .int 0, .long 0])) := eh88_
  have e89_ := kg_fr (gh88_ _ (tg_z t80_ (by decide) z87_)) e75_
  have e90_ := kg_fr (gh88_ _ (tg_z t80_ (by decide) z87_)) e76_
  have e91_ := kg_fr (gh88_ _ (tg_z t82_ (by decide) z87_)) e77_
  have e92_ := kg_fr (gh88_ _ (tg_z t82_ (by decide) z87_)) e78_
  have e93_ := kce_fr (gh88_ _ (tg_z t85_ (by decide) z87_)) e79_
  refine k_new (n := 3) Wh88_ (by omega) rfl (fun h94_ sh94_ uh94_ eh94_ gh94_ Wh94_ zh94_ => ?_)
  have e95_ := kg_fr (gh94_ _ (Nat.ne_of_lt (tG_lt Wh88_ t80_ (by decide)))) e89_
  have e96_ := kg_fr (gh94_ _ (Nat.ne_of_lt (tG_lt Wh88_ t80_ (by decide)))) e90_
  have e97_ := kg_fr (gh94_ _ (Nat.ne_of_lt (tG_lt Wh88_ t82_ (by decide)))) e91_
  have e98_ := kg_fr (gh94_ _ (Nat.ne_of_lt (tG_lt Wh88_ t82_ (by decide)))) e92_
  have e99_ := kce_fr (gh94_ _ (Nat.ne_of_lt (tG_lt Wh88_ t85_ (by decide)))) e93_
  have e100_ := (gh94_ _ (by omega)).trans eh88_'
  refine k_kR (x := some h.1) (by rw [pu_get e100_]; rfl) ?_
  refine k_cA (by omega) (by omega) (by first | decide | exact fun _ q => q) (kX5_init Wh94_ (by omega) zh94_ eh94_ t80_) (fun v102_ h101_ Gh101_ fh101_ qh101_ => ?_)
  have Wh101_ := fh101_.1
  have sh101_ := fh101_.2.1
  have th101_ := fh101_.2.2.1
  have uh101_ := fh101_.2.2.2.1
  have e103_ := kg_fr (fh101_.2.2.2.2.2 _ (tG_lt Wh94_ t80_ (by decide)) (tg_z t80_ (by decide) zh94_) (by rw [t80_.1, t80_.2]; first | decide | simp)) e95_
  have e104_ := kg_fr (fh101_.2.2.2.2.2 _ (tG_lt Wh94_ t80_ (by decide)) (tg_z t80_ (by decide) zh94_) (by rw [t80_.1, t80_.2]; first | decide | simp)) e96_
  have e105_ := kg_fr (fh101_.2.2.2.2.2 _ (tG_lt Wh94_ t82_ (by decide)) (tg_z t82_ (by decide) zh94_) (by rw [t82_.1, t82_.2]; first | decide | simp)) e97_
  have e106_ := kg_fr (fh101_.2.2.2.2.2 _ (tG_lt Wh94_ t82_ (by decide)) (tg_z t82_ (by decide) zh94_) (by rw [t82_.1, t82_.2]; first | decide | simp)) e98_
  have e107_ := kce_fr (fh101_.2.2.2.2.2 _ (tG_lt Wh94_ t85_ (by decide)) (tg_z t85_ (by decide) zh94_) (by rw [t85_.1, t85_.2]; first | decide | simp)) e99_
  have t108_ := tg_up fh101_ Wh94_ t80_ (by decide) (tg_z t80_ (by decide) zh94_)
  have t109_ := tg_up fh101_ Wh94_ t81_ (by decide) (tg_z t81_ (by decide) zh94_)
  have := tg_upl fh101_ Wh94_ t81_ (by decide) (tg_z t81_ (by decide) zh94_)
  have t110_ := tg_up fh101_ Wh94_ t82_ (by decide) (tg_z t82_ (by decide) zh94_)
  have t111_ := tg_up fh101_ Wh94_ t83_ (by decide) (tg_z t83_ (by decide) zh94_)
  have := tg_upl fh101_ Wh94_ t83_ (by decide) (tg_z t83_ (by decide) zh94_)
  have t112_ := tg_up fh101_ Wh94_ t84_ (by decide) (tg_z t84_ (by decide) zh94_)
  have t113_ := tg_up fh101_ Wh94_ t85_ (by decide) (tg_z t85_ (by decide) zh94_)
  have := tg_upl fh101_ Wh94_ t85_ (by decide) (tg_z t85_ (by decide) zh94_)
  have t114_ := tg_up fh101_ Wh94_ qh73_ (by decide) (tg_z qh73_ (by decide) zh94_)
  have e115_ := (fh101_.2.2.2.2.2 _ (by omega) (by omega) (by rw [z87_]; simp)).trans e100_
  have z116_ : (Gh101_ a0).1 = 0 := by rw [fh101_.2.2.2.2.1 _ (by omega) (by omega)]; exact z87_
  refine k_raw Wh101_ z116_ (Or.inl rfl) e115_ (by first | decide | simp) (fun h117_ sh117_ uh117_ eh117_ gh117_ Wh117_ => ?_)
  have eh117_' : h117_.2.2 a0 = some (.inr (11, [sm_v (vR (some h.1)), sm_v (vR (some h6_.1)), sm_v (vR (some h20_.1)), sm_v (vR (some h43_.1)), sm_v (vR (some h60_.1)), sm_v (vR (some h88_.1)), .null, .null, .null, .null, .null, .null, .null, .null, .int 0, .int 0, .long 0])) := eh117_
  have e118_ := kg_fr (gh117_ _ (tg_z t108_ (by decide) z116_)) e103_
  have e119_ := kg_fr (gh117_ _ (tg_z t108_ (by decide) z116_)) e104_
  have e120_ := kg_fr (gh117_ _ (tg_z t110_ (by decide) z116_)) e105_
  have e121_ := kg_fr (gh117_ _ (tg_z t110_ (by decide) z116_)) e106_
  have e122_ := kce_fr (gh117_ _ (tg_z t113_ (by decide) z116_)) e107_
  refine k_new (n := 2) Wh117_ (by omega) rfl (fun h123_ sh123_ uh123_ eh123_ gh123_ Wh123_ zh123_ => ?_)
  have e124_ := kg_fr (gh123_ _ (Nat.ne_of_lt (tG_lt Wh117_ t108_ (by decide)))) e118_
  have e125_ := kg_fr (gh123_ _ (Nat.ne_of_lt (tG_lt Wh117_ t108_ (by decide)))) e119_
  have e126_ := kg_fr (gh123_ _ (Nat.ne_of_lt (tG_lt Wh117_ t110_ (by decide)))) e120_
  have e127_ := kg_fr (gh123_ _ (Nat.ne_of_lt (tG_lt Wh117_ t110_ (by decide)))) e121_
  have e128_ := kce_fr (gh123_ _ (Nat.ne_of_lt (tG_lt Wh117_ t113_ (by decide)))) e122_
  have e129_ := (gh123_ _ (by omega)).trans eh117_'
  refine k_kR (x := some h20_.1) (by rw [pu_get e129_]; rfl) ?_
  refine k_kR (x := some h60_.1) (by rw [pu_get e129_]; rfl) ?_
  refine k_cA (by omega) (by omega) (by first | decide | exact fun _ q => q) (kX1_init Wh123_ (by omega) zh123_ eh123_ t112_ t114_) (fun v131_ h130_ Gh130_ fh130_ qh130_ => ?_)
  have Wh130_ := fh130_.1
  have sh130_ := fh130_.2.1
  have th130_ := fh130_.2.2.1
  have uh130_ := fh130_.2.2.2.1
  have e132_ := kg_fr (fh130_.2.2.2.2.2 _ (tG_lt Wh123_ t108_ (by decide)) (tg_z t108_ (by decide) zh123_) (by rw [t108_.1, t108_.2]; first | decide | simp)) e124_
  have e133_ := kg_fr (fh130_.2.2.2.2.2 _ (tG_lt Wh123_ t108_ (by decide)) (tg_z t108_ (by decide) zh123_) (by rw [t108_.1, t108_.2]; first | decide | simp)) e125_
  have e134_ := kg_fr (fh130_.2.2.2.2.2 _ (tG_lt Wh123_ t110_ (by decide)) (tg_z t110_ (by decide) zh123_) (by rw [t110_.1, t110_.2]; first | decide | simp)) e126_
  have e135_ := kg_fr (fh130_.2.2.2.2.2 _ (tG_lt Wh123_ t110_ (by decide)) (tg_z t110_ (by decide) zh123_) (by rw [t110_.1, t110_.2]; first | decide | simp)) e127_
  have e136_ := kce_fr (fh130_.2.2.2.2.2 _ (tG_lt Wh123_ t113_ (by decide)) (tg_z t113_ (by decide) zh123_) (by rw [t113_.1, t113_.2]; first | decide | simp)) e128_
  have t137_ := tg_up fh130_ Wh123_ t108_ (by decide) (tg_z t108_ (by decide) zh123_)
  have t138_ := tg_up fh130_ Wh123_ t109_ (by decide) (tg_z t109_ (by decide) zh123_)
  have := tg_upl fh130_ Wh123_ t109_ (by decide) (tg_z t109_ (by decide) zh123_)
  have t139_ := tg_up fh130_ Wh123_ t110_ (by decide) (tg_z t110_ (by decide) zh123_)
  have t140_ := tg_up fh130_ Wh123_ t111_ (by decide) (tg_z t111_ (by decide) zh123_)
  have := tg_upl fh130_ Wh123_ t111_ (by decide) (tg_z t111_ (by decide) zh123_)
  have t141_ := tg_up fh130_ Wh123_ t112_ (by decide) (tg_z t112_ (by decide) zh123_)
  have t142_ := tg_up fh130_ Wh123_ t113_ (by decide) (tg_z t113_ (by decide) zh123_)
  have := tg_upl fh130_ Wh123_ t113_ (by decide) (tg_z t113_ (by decide) zh123_)
  have t143_ := tg_up fh130_ Wh123_ t114_ (by decide) (tg_z t114_ (by decide) zh123_)
  have t144_ := tg_up fh130_ Wh123_ qh101_ (by decide) (tg_z qh101_ (by decide) zh123_)
  have e145_ := (fh130_.2.2.2.2.2 _ (by omega) (by omega) (by rw [z116_]; simp)).trans e129_
  have z146_ : (Gh130_ a0).1 = 0 := by rw [fh130_.2.2.2.2.1 _ (by omega) (by omega)]; exact z116_
  refine k_raw Wh130_ z146_ (Or.inl rfl) e145_ (by first | decide | simp) (fun h147_ sh147_ uh147_ eh147_ gh147_ Wh147_ => ?_)
  have eh147_' : h147_.2.2 a0 = some (.inr (11, [sm_v (vR (some h.1)), sm_v (vR (some h6_.1)), sm_v (vR (some h20_.1)), sm_v (vR (some h43_.1)), sm_v (vR (some h60_.1)), sm_v (vR (some h88_.1)), sm_v (vR (some h117_.1)), .null, .null, .null, .null, .null, .null, .null, .int 0, .int 0, .long 0])) := eh147_
  have e148_ := kg_fr (gh147_ _ (tg_z t137_ (by decide) z146_)) e132_
  have e149_ := kg_fr (gh147_ _ (tg_z t137_ (by decide) z146_)) e133_
  have e150_ := kg_fr (gh147_ _ (tg_z t139_ (by decide) z146_)) e134_
  have e151_ := kg_fr (gh147_ _ (tg_z t139_ (by decide) z146_)) e135_
  have e152_ := kce_fr (gh147_ _ (tg_z t142_ (by decide) z146_)) e136_
  refine k_new (n := 6) Wh147_ (by omega) rfl (fun h153_ sh153_ uh153_ eh153_ gh153_ Wh153_ zh153_ => ?_)
  have e154_ := kg_fr (gh153_ _ (Nat.ne_of_lt (tG_lt Wh147_ t137_ (by decide)))) e148_
  have e155_ := kg_fr (gh153_ _ (Nat.ne_of_lt (tG_lt Wh147_ t137_ (by decide)))) e149_
  have e156_ := kg_fr (gh153_ _ (Nat.ne_of_lt (tG_lt Wh147_ t139_ (by decide)))) e150_
  have e157_ := kg_fr (gh153_ _ (Nat.ne_of_lt (tG_lt Wh147_ t139_ (by decide)))) e151_
  have e158_ := kce_fr (gh153_ _ (Nat.ne_of_lt (tG_lt Wh147_ t142_ (by decide)))) e152_
  have e159_ := (gh153_ _ (by omega)).trans eh147_'
  refine k_cA (by omega) (by omega) (by first | decide | exact fun _ q => q) (kX6_init Wh153_ (by omega) zh153_ eh153_ ) (fun v161_ h160_ Gh160_ fh160_ qh160_ => ?_)
  have Wh160_ := fh160_.1
  have sh160_ := fh160_.2.1
  have th160_ := fh160_.2.2.1
  have uh160_ := fh160_.2.2.2.1
  have e162_ := kg_fr (fh160_.2.2.2.2.2 _ (tG_lt Wh153_ t137_ (by decide)) (tg_z t137_ (by decide) zh153_) (by rw [t137_.1, t137_.2]; first | decide | simp)) e154_
  have e163_ := kg_fr (fh160_.2.2.2.2.2 _ (tG_lt Wh153_ t137_ (by decide)) (tg_z t137_ (by decide) zh153_) (by rw [t137_.1, t137_.2]; first | decide | simp)) e155_
  have e164_ := kg_fr (fh160_.2.2.2.2.2 _ (tG_lt Wh153_ t139_ (by decide)) (tg_z t139_ (by decide) zh153_) (by rw [t139_.1, t139_.2]; first | decide | simp)) e156_
  have e165_ := kg_fr (fh160_.2.2.2.2.2 _ (tG_lt Wh153_ t139_ (by decide)) (tg_z t139_ (by decide) zh153_) (by rw [t139_.1, t139_.2]; first | decide | simp)) e157_
  have e166_ := kce_fr (fh160_.2.2.2.2.2 _ (tG_lt Wh153_ t142_ (by decide)) (tg_z t142_ (by decide) zh153_) (by rw [t142_.1, t142_.2]; first | decide | simp)) e158_
  have t167_ := tg_up fh160_ Wh153_ t137_ (by decide) (tg_z t137_ (by decide) zh153_)
  have t168_ := tg_up fh160_ Wh153_ t138_ (by decide) (tg_z t138_ (by decide) zh153_)
  have := tg_upl fh160_ Wh153_ t138_ (by decide) (tg_z t138_ (by decide) zh153_)
  have t169_ := tg_up fh160_ Wh153_ t139_ (by decide) (tg_z t139_ (by decide) zh153_)
  have t170_ := tg_up fh160_ Wh153_ t140_ (by decide) (tg_z t140_ (by decide) zh153_)
  have := tg_upl fh160_ Wh153_ t140_ (by decide) (tg_z t140_ (by decide) zh153_)
  have t171_ := tg_up fh160_ Wh153_ t141_ (by decide) (tg_z t141_ (by decide) zh153_)
  have t172_ := tg_up fh160_ Wh153_ t142_ (by decide) (tg_z t142_ (by decide) zh153_)
  have := tg_upl fh160_ Wh153_ t142_ (by decide) (tg_z t142_ (by decide) zh153_)
  have t173_ := tg_up fh160_ Wh153_ t143_ (by decide) (tg_z t143_ (by decide) zh153_)
  have t174_ := tg_up fh160_ Wh153_ t144_ (by decide) (tg_z t144_ (by decide) zh153_)
  have t175_ := tg_up fh160_ Wh153_ qh130_ (by decide) (tg_z qh130_ (by decide) zh153_)
  have e176_ := (fh160_.2.2.2.2.2 _ (by omega) (by omega) (by rw [z146_]; simp)).trans e159_
  have z177_ : (Gh160_ a0).1 = 0 := by rw [fh160_.2.2.2.2.1 _ (by omega) (by omega)]; exact z146_
  refine k_raw Wh160_ z177_ (Or.inl rfl) e176_ (by first | decide | simp) (fun h178_ sh178_ uh178_ eh178_ gh178_ Wh178_ => ?_)
  have eh178_' : h178_.2.2 a0 = some (.inr (11, [sm_v (vR (some h.1)), sm_v (vR (some h6_.1)), sm_v (vR (some h20_.1)), sm_v (vR (some h43_.1)), sm_v (vR (some h60_.1)), sm_v (vR (some h88_.1)), sm_v (vR (some h117_.1)), sm_v (vR (some h147_.1)), .null, .null, .null, .null, .null, .null, .int 0, .int 0, .long 0])) := eh178_
  have e179_ := kg_fr (gh178_ _ (tg_z t167_ (by decide) z177_)) e162_
  have e180_ := kg_fr (gh178_ _ (tg_z t167_ (by decide) z177_)) e163_
  have e181_ := kg_fr (gh178_ _ (tg_z t169_ (by decide) z177_)) e164_
  have e182_ := kg_fr (gh178_ _ (tg_z t169_ (by decide) z177_)) e165_
  have e183_ := kce_fr (gh178_ _ (tg_z t172_ (by decide) z177_)) e166_
  rw [if_neg (by decide)]
  try rw [show ((8 : Int32)).toNatClampNeg = 8 from rfl]
  refine k_nwa (ρ := 0) Wh178_ (by omega) (by decide) (by decide) dk_I (fun h184_ Gh184_ sh184_ uh184_ gh184_ kh184_ Wh184_ th184_ lh184_ => ?_)
  have e185_ := kg_fr (gh184_ _ (Nat.ne_of_lt (tG_lt Wh178_ t167_ (by decide)))) e179_
  have e186_ := kg_fr (gh184_ _ (Nat.ne_of_lt (tG_lt Wh178_ t167_ (by decide)))) e180_
  have e187_ := kg_fr (gh184_ _ (Nat.ne_of_lt (tG_lt Wh178_ t169_ (by decide)))) e181_
  have e188_ := kg_fr (gh184_ _ (Nat.ne_of_lt (tG_lt Wh178_ t169_ (by decide)))) e182_
  have e189_ := kce_fr (gh184_ _ (Nat.ne_of_lt (tG_lt Wh178_ t172_ (by decide)))) e183_
  have t190_ := tg_nw kh184_ (Nat.ne_of_lt (tG_lt Wh178_ t167_ (by decide))) t167_
  have t191_ := tg_nw kh184_ (Nat.ne_of_lt (tG_lt Wh178_ t168_ (by decide))) t168_
  have := congrArg (fun z => z.2.1) (kh184_ _ (Nat.ne_of_lt (tG_lt Wh178_ t168_ (by decide))))
  try simp only at this
  have t192_ := tg_nw kh184_ (Nat.ne_of_lt (tG_lt Wh178_ t169_ (by decide))) t169_
  have t193_ := tg_nw kh184_ (Nat.ne_of_lt (tG_lt Wh178_ t170_ (by decide))) t170_
  have := congrArg (fun z => z.2.1) (kh184_ _ (Nat.ne_of_lt (tG_lt Wh178_ t170_ (by decide))))
  try simp only at this
  have t194_ := tg_nw kh184_ (Nat.ne_of_lt (tG_lt Wh178_ t171_ (by decide))) t171_
  have t195_ := tg_nw kh184_ (Nat.ne_of_lt (tG_lt Wh178_ t172_ (by decide))) t172_
  have := congrArg (fun z => z.2.1) (kh184_ _ (Nat.ne_of_lt (tG_lt Wh178_ t172_ (by decide))))
  try simp only at this
  have t196_ := tg_nw kh184_ (Nat.ne_of_lt (tG_lt Wh178_ t173_ (by decide))) t173_
  have t197_ := tg_nw kh184_ (Nat.ne_of_lt (tG_lt Wh178_ t174_ (by decide))) t174_
  have t198_ := tg_nw kh184_ (Nat.ne_of_lt (tG_lt Wh178_ t175_ (by decide))) t175_
  have t199_ := tg_nw kh184_ (Nat.ne_of_lt (tG_lt Wh178_ qh160_ (by decide))) qh160_
  have e200_ := (gh184_ _ (by omega)).trans eh178_'
  have z201_ : (Gh184_ a0).1 = 0 := by rw [kh184_ _ (by omega)]; exact z177_
  refine k_raw Wh184_ z201_ (Or.inl rfl) e200_ (by first | decide | simp) (fun h202_ sh202_ uh202_ eh202_ gh202_ Wh202_ => ?_)
  have eh202_' : h202_.2.2 a0 = some (.inr (11, [sm_v (vR (some h.1)), sm_v (vR (some h6_.1)), sm_v (vR (some h20_.1)), sm_v (vR (some h43_.1)), sm_v (vR (some h60_.1)), sm_v (vR (some h88_.1)), sm_v (vR (some h117_.1)), sm_v (vR (some h147_.1)), sm_v (vR (some h178_.1)), .null, .null, .null, .null, .null, .int 0, .int 0, .long 0])) := eh202_
  have e203_ := kg_fr (gh202_ _ (tg_z t190_ (by decide) z201_)) e185_
  have e204_ := kg_fr (gh202_ _ (tg_z t190_ (by decide) z201_)) e186_
  have e205_ := kg_fr (gh202_ _ (tg_z t192_ (by decide) z201_)) e187_
  have e206_ := kg_fr (gh202_ _ (tg_z t192_ (by decide) z201_)) e188_
  have e207_ := kce_fr (gh202_ _ (tg_z t195_ (by decide) z201_)) e189_
  refine k_new (n := 2) Wh202_ (by omega) rfl (fun h208_ sh208_ uh208_ eh208_ gh208_ Wh208_ zh208_ => ?_)
  have e209_ := kg_fr (gh208_ _ (Nat.ne_of_lt (tG_lt Wh202_ t190_ (by decide)))) e203_
  have e210_ := kg_fr (gh208_ _ (Nat.ne_of_lt (tG_lt Wh202_ t190_ (by decide)))) e204_
  have e211_ := kg_fr (gh208_ _ (Nat.ne_of_lt (tG_lt Wh202_ t192_ (by decide)))) e205_
  have e212_ := kg_fr (gh208_ _ (Nat.ne_of_lt (tG_lt Wh202_ t192_ (by decide)))) e206_
  have e213_ := kce_fr (gh208_ _ (Nat.ne_of_lt (tG_lt Wh202_ t195_ (by decide)))) e207_
  have e214_ := (gh208_ _ (by omega)).trans eh202_'
  refine k_cA (by omega) (by omega) (by first | decide | exact fun _ q => q) (kX0_init (ρ := 0) (R := 16) Wh208_ (by omega) zh208_ eh208_  (by first | omega | assumption | decide) (by first | omega | assumption | decide)) (fun v216_ h215_ Gh215_ fh215_ qh215_ => ?_)
  have Wh215_ := fh215_.1
  have sh215_ := fh215_.2.1
  have th215_ := fh215_.2.2.1
  have uh215_ := fh215_.2.2.2.1
  have e217_ := kg_fr (fh215_.2.2.2.2.2 _ (tG_lt Wh208_ t190_ (by decide)) (tg_z t190_ (by decide) zh208_) (by rw [t190_.1, t190_.2]; first | decide | simp)) e209_
  have e218_ := kg_fr (fh215_.2.2.2.2.2 _ (tG_lt Wh208_ t190_ (by decide)) (tg_z t190_ (by decide) zh208_) (by rw [t190_.1, t190_.2]; first | decide | simp)) e210_
  have e219_ := kg_fr (fh215_.2.2.2.2.2 _ (tG_lt Wh208_ t192_ (by decide)) (tg_z t192_ (by decide) zh208_) (by rw [t192_.1, t192_.2]; first | decide | simp)) e211_
  have e220_ := kg_fr (fh215_.2.2.2.2.2 _ (tG_lt Wh208_ t192_ (by decide)) (tg_z t192_ (by decide) zh208_) (by rw [t192_.1, t192_.2]; first | decide | simp)) e212_
  have e221_ := kce_fr (fh215_.2.2.2.2.2 _ (tG_lt Wh208_ t195_ (by decide)) (tg_z t195_ (by decide) zh208_) (by rw [t195_.1, t195_.2]; first | decide | simp)) e213_
  have t222_ := tg_up fh215_ Wh208_ t190_ (by decide) (tg_z t190_ (by decide) zh208_)
  have t223_ := tg_up fh215_ Wh208_ t191_ (by decide) (tg_z t191_ (by decide) zh208_)
  have := tg_upl fh215_ Wh208_ t191_ (by decide) (tg_z t191_ (by decide) zh208_)
  have t224_ := tg_up fh215_ Wh208_ t192_ (by decide) (tg_z t192_ (by decide) zh208_)
  have t225_ := tg_up fh215_ Wh208_ t193_ (by decide) (tg_z t193_ (by decide) zh208_)
  have := tg_upl fh215_ Wh208_ t193_ (by decide) (tg_z t193_ (by decide) zh208_)
  have t226_ := tg_up fh215_ Wh208_ t194_ (by decide) (tg_z t194_ (by decide) zh208_)
  have t227_ := tg_up fh215_ Wh208_ t195_ (by decide) (tg_z t195_ (by decide) zh208_)
  have := tg_upl fh215_ Wh208_ t195_ (by decide) (tg_z t195_ (by decide) zh208_)
  have t228_ := tg_up fh215_ Wh208_ t196_ (by decide) (tg_z t196_ (by decide) zh208_)
  have t229_ := tg_up fh215_ Wh208_ t197_ (by decide) (tg_z t197_ (by decide) zh208_)
  have t230_ := tg_up fh215_ Wh208_ t198_ (by decide) (tg_z t198_ (by decide) zh208_)
  have t231_ := tg_up fh215_ Wh208_ t199_ (by decide) (tg_z t199_ (by decide) zh208_)
  have t232_ := tg_up fh215_ Wh208_ th184_ (by decide) (tg_z th184_ (by decide) zh208_)
  have := tg_upl fh215_ Wh208_ th184_ (by decide) (tg_z th184_ (by decide) zh208_)
  have e233_ := (fh215_.2.2.2.2.2 _ (by omega) (by omega) (by rw [z201_]; simp)).trans e214_
  have z234_ : (Gh215_ a0).1 = 0 := by rw [fh215_.2.2.2.2.1 _ (by omega) (by omega)]; exact z201_
  refine k_raw Wh215_ z234_ (Or.inl rfl) e233_ (by first | decide | simp) (fun h235_ sh235_ uh235_ eh235_ gh235_ Wh235_ => ?_)
  have eh235_' : h235_.2.2 a0 = some (.inr (11, [sm_v (vR (some h.1)), sm_v (vR (some h6_.1)), sm_v (vR (some h20_.1)), sm_v (vR (some h43_.1)), sm_v (vR (some h60_.1)), sm_v (vR (some h88_.1)), sm_v (vR (some h117_.1)), sm_v (vR (some h147_.1)), sm_v (vR (some h178_.1)), sm_v (vR (some h202_.1)), .null, .null, .null, .null, .int 0, .int 0, .long 0])) := eh235_
  have e236_ := kg_fr (gh235_ _ (tg_z t222_ (by decide) z234_)) e217_
  have e237_ := kg_fr (gh235_ _ (tg_z t222_ (by decide) z234_)) e218_
  have e238_ := kg_fr (gh235_ _ (tg_z t224_ (by decide) z234_)) e219_
  have e239_ := kg_fr (gh235_ _ (tg_z t224_ (by decide) z234_)) e220_
  have e240_ := kce_fr (gh235_ _ (tg_z t227_ (by decide) z234_)) e221_
  refine k_new (n := 3) Wh235_ (by omega) rfl (fun h241_ sh241_ uh241_ eh241_ gh241_ Wh241_ zh241_ => ?_)
  have e242_ := kg_fr (gh241_ _ (Nat.ne_of_lt (tG_lt Wh235_ t222_ (by decide)))) e236_
  have e243_ := kg_fr (gh241_ _ (Nat.ne_of_lt (tG_lt Wh235_ t222_ (by decide)))) e237_
  have e244_ := kg_fr (gh241_ _ (Nat.ne_of_lt (tG_lt Wh235_ t224_ (by decide)))) e238_
  have e245_ := kg_fr (gh241_ _ (Nat.ne_of_lt (tG_lt Wh235_ t224_ (by decide)))) e239_
  have e246_ := kce_fr (gh241_ _ (Nat.ne_of_lt (tG_lt Wh235_ t227_ (by decide)))) e240_
  have e247_ := (gh241_ _ (by omega)).trans eh235_'
  refine k_cA (by omega) (by omega) (by first | decide | exact fun _ q => q) (kX10_init (R := 0) Wh241_ (by omega) zh241_ eh241_  (by first | omega | assumption | decide) (by first | omega | assumption | decide)) (fun v249_ h248_ Gh248_ fh248_ qh248_ => ?_)
  have Wh248_ := fh248_.1
  have sh248_ := fh248_.2.1
  have th248_ := fh248_.2.2.1
  have uh248_ := fh248_.2.2.2.1
  have e250_ := kg_fr (fh248_.2.2.2.2.2 _ (tG_lt Wh241_ t222_ (by decide)) (tg_z t222_ (by decide) zh241_) (by rw [t222_.1, t222_.2]; first | decide | simp)) e242_
  have e251_ := kg_fr (fh248_.2.2.2.2.2 _ (tG_lt Wh241_ t222_ (by decide)) (tg_z t222_ (by decide) zh241_) (by rw [t222_.1, t222_.2]; first | decide | simp)) e243_
  have e252_ := kg_fr (fh248_.2.2.2.2.2 _ (tG_lt Wh241_ t224_ (by decide)) (tg_z t224_ (by decide) zh241_) (by rw [t224_.1, t224_.2]; first | decide | simp)) e244_
  have e253_ := kg_fr (fh248_.2.2.2.2.2 _ (tG_lt Wh241_ t224_ (by decide)) (tg_z t224_ (by decide) zh241_) (by rw [t224_.1, t224_.2]; first | decide | simp)) e245_
  have e254_ := kce_fr (fh248_.2.2.2.2.2 _ (tG_lt Wh241_ t227_ (by decide)) (tg_z t227_ (by decide) zh241_) (by rw [t227_.1, t227_.2]; first | decide | simp)) e246_
  have t255_ := tg_up fh248_ Wh241_ t222_ (by decide) (tg_z t222_ (by decide) zh241_)
  have t256_ := tg_up fh248_ Wh241_ t223_ (by decide) (tg_z t223_ (by decide) zh241_)
  have := tg_upl fh248_ Wh241_ t223_ (by decide) (tg_z t223_ (by decide) zh241_)
  have t257_ := tg_up fh248_ Wh241_ t224_ (by decide) (tg_z t224_ (by decide) zh241_)
  have t258_ := tg_up fh248_ Wh241_ t225_ (by decide) (tg_z t225_ (by decide) zh241_)
  have := tg_upl fh248_ Wh241_ t225_ (by decide) (tg_z t225_ (by decide) zh241_)
  have t259_ := tg_up fh248_ Wh241_ t226_ (by decide) (tg_z t226_ (by decide) zh241_)
  have t260_ := tg_up fh248_ Wh241_ t227_ (by decide) (tg_z t227_ (by decide) zh241_)
  have := tg_upl fh248_ Wh241_ t227_ (by decide) (tg_z t227_ (by decide) zh241_)
  have t261_ := tg_up fh248_ Wh241_ t228_ (by decide) (tg_z t228_ (by decide) zh241_)
  have t262_ := tg_up fh248_ Wh241_ t229_ (by decide) (tg_z t229_ (by decide) zh241_)
  have t263_ := tg_up fh248_ Wh241_ t230_ (by decide) (tg_z t230_ (by decide) zh241_)
  have t264_ := tg_up fh248_ Wh241_ t231_ (by decide) (tg_z t231_ (by decide) zh241_)
  have t265_ := tg_up fh248_ Wh241_ t232_ (by decide) (tg_z t232_ (by decide) zh241_)
  have := tg_upl fh248_ Wh241_ t232_ (by decide) (tg_z t232_ (by decide) zh241_)
  have t266_ := tg_up fh248_ Wh241_ qh215_ (by decide) (tg_z qh215_ (by decide) zh241_)
  have e267_ := (fh248_.2.2.2.2.2 _ (by omega) (by omega) (by rw [z234_]; simp)).trans e247_
  have z268_ : (Gh248_ a0).1 = 0 := by rw [fh248_.2.2.2.2.1 _ (by omega) (by omega)]; exact z234_
  refine k_raw Wh248_ z268_ (Or.inl rfl) e267_ (by first | decide | simp) (fun h269_ sh269_ uh269_ eh269_ gh269_ Wh269_ => ?_)
  have eh269_' : h269_.2.2 a0 = some (.inr (11, [sm_v (vR (some h.1)), sm_v (vR (some h6_.1)), sm_v (vR (some h20_.1)), sm_v (vR (some h43_.1)), sm_v (vR (some h60_.1)), sm_v (vR (some h88_.1)), sm_v (vR (some h117_.1)), sm_v (vR (some h147_.1)), sm_v (vR (some h178_.1)), sm_v (vR (some h202_.1)), sm_v (vR (some h235_.1)), .null, .null, .null, .int 0, .int 0, .long 0])) := eh269_
  have e270_ := kg_fr (gh269_ _ (tg_z t255_ (by decide) z268_)) e250_
  have e271_ := kg_fr (gh269_ _ (tg_z t255_ (by decide) z268_)) e251_
  have e272_ := kg_fr (gh269_ _ (tg_z t257_ (by decide) z268_)) e252_
  have e273_ := kg_fr (gh269_ _ (tg_z t257_ (by decide) z268_)) e253_
  have e274_ := kce_fr (gh269_ _ (tg_z t260_ (by decide) z268_)) e254_
  refine k_new (n := 3) Wh269_ (by omega) rfl (fun h275_ sh275_ uh275_ eh275_ gh275_ Wh275_ zh275_ => ?_)
  have e276_ := kg_fr (gh275_ _ (Nat.ne_of_lt (tG_lt Wh269_ t255_ (by decide)))) e270_
  have e277_ := kg_fr (gh275_ _ (Nat.ne_of_lt (tG_lt Wh269_ t255_ (by decide)))) e271_
  have e278_ := kg_fr (gh275_ _ (Nat.ne_of_lt (tG_lt Wh269_ t257_ (by decide)))) e272_
  have e279_ := kg_fr (gh275_ _ (Nat.ne_of_lt (tG_lt Wh269_ t257_ (by decide)))) e273_
  have e280_ := kce_fr (gh275_ _ (Nat.ne_of_lt (tG_lt Wh269_ t260_ (by decide)))) e274_
  have e281_ := (gh275_ _ (by omega)).trans eh269_'
  refine k_cA (by omega) (by omega) (by first | decide | exact fun _ q => q) (kX10_init (R := 0) Wh275_ (by omega) zh275_ eh275_  (by first | omega | assumption | decide) (by first | omega | assumption | decide)) (fun v283_ h282_ Gh282_ fh282_ qh282_ => ?_)
  have Wh282_ := fh282_.1
  have sh282_ := fh282_.2.1
  have th282_ := fh282_.2.2.1
  have uh282_ := fh282_.2.2.2.1
  have e284_ := kg_fr (fh282_.2.2.2.2.2 _ (tG_lt Wh275_ t255_ (by decide)) (tg_z t255_ (by decide) zh275_) (by rw [t255_.1, t255_.2]; first | decide | simp)) e276_
  have e285_ := kg_fr (fh282_.2.2.2.2.2 _ (tG_lt Wh275_ t255_ (by decide)) (tg_z t255_ (by decide) zh275_) (by rw [t255_.1, t255_.2]; first | decide | simp)) e277_
  have e286_ := kg_fr (fh282_.2.2.2.2.2 _ (tG_lt Wh275_ t257_ (by decide)) (tg_z t257_ (by decide) zh275_) (by rw [t257_.1, t257_.2]; first | decide | simp)) e278_
  have e287_ := kg_fr (fh282_.2.2.2.2.2 _ (tG_lt Wh275_ t257_ (by decide)) (tg_z t257_ (by decide) zh275_) (by rw [t257_.1, t257_.2]; first | decide | simp)) e279_
  have e288_ := kce_fr (fh282_.2.2.2.2.2 _ (tG_lt Wh275_ t260_ (by decide)) (tg_z t260_ (by decide) zh275_) (by rw [t260_.1, t260_.2]; first | decide | simp)) e280_
  have t289_ := tg_up fh282_ Wh275_ t255_ (by decide) (tg_z t255_ (by decide) zh275_)
  have t290_ := tg_up fh282_ Wh275_ t256_ (by decide) (tg_z t256_ (by decide) zh275_)
  have := tg_upl fh282_ Wh275_ t256_ (by decide) (tg_z t256_ (by decide) zh275_)
  have t291_ := tg_up fh282_ Wh275_ t257_ (by decide) (tg_z t257_ (by decide) zh275_)
  have t292_ := tg_up fh282_ Wh275_ t258_ (by decide) (tg_z t258_ (by decide) zh275_)
  have := tg_upl fh282_ Wh275_ t258_ (by decide) (tg_z t258_ (by decide) zh275_)
  have t293_ := tg_up fh282_ Wh275_ t259_ (by decide) (tg_z t259_ (by decide) zh275_)
  have t294_ := tg_up fh282_ Wh275_ t260_ (by decide) (tg_z t260_ (by decide) zh275_)
  have := tg_upl fh282_ Wh275_ t260_ (by decide) (tg_z t260_ (by decide) zh275_)
  have t295_ := tg_up fh282_ Wh275_ t261_ (by decide) (tg_z t261_ (by decide) zh275_)
  have t296_ := tg_up fh282_ Wh275_ t262_ (by decide) (tg_z t262_ (by decide) zh275_)
  have t297_ := tg_up fh282_ Wh275_ t263_ (by decide) (tg_z t263_ (by decide) zh275_)
  have t298_ := tg_up fh282_ Wh275_ t264_ (by decide) (tg_z t264_ (by decide) zh275_)
  have t299_ := tg_up fh282_ Wh275_ t265_ (by decide) (tg_z t265_ (by decide) zh275_)
  have := tg_upl fh282_ Wh275_ t265_ (by decide) (tg_z t265_ (by decide) zh275_)
  have t300_ := tg_up fh282_ Wh275_ t266_ (by decide) (tg_z t266_ (by decide) zh275_)
  have t301_ := tg_up fh282_ Wh275_ qh248_ (by decide) (tg_z qh248_ (by decide) zh275_)
  have e302_ := (fh282_.2.2.2.2.2 _ (by omega) (by omega) (by rw [z268_]; simp)).trans e281_
  have z303_ : (Gh282_ a0).1 = 0 := by rw [fh282_.2.2.2.2.1 _ (by omega) (by omega)]; exact z268_
  refine k_raw Wh282_ z303_ (Or.inl rfl) e302_ (by first | decide | simp) (fun h304_ sh304_ uh304_ eh304_ gh304_ Wh304_ => ?_)
  have eh304_' : h304_.2.2 a0 = some (.inr (11, [sm_v (vR (some h.1)), sm_v (vR (some h6_.1)), sm_v (vR (some h20_.1)), sm_v (vR (some h43_.1)), sm_v (vR (some h60_.1)), sm_v (vR (some h88_.1)), sm_v (vR (some h117_.1)), sm_v (vR (some h147_.1)), sm_v (vR (some h178_.1)), sm_v (vR (some h202_.1)), sm_v (vR (some h235_.1)), sm_v (vR (some h269_.1)), .null, .null, .int 0, .int 0, .long 0])) := eh304_
  have e305_ := kg_fr (gh304_ _ (tg_z t289_ (by decide) z303_)) e284_
  have e306_ := kg_fr (gh304_ _ (tg_z t289_ (by decide) z303_)) e285_
  have e307_ := kg_fr (gh304_ _ (tg_z t291_ (by decide) z303_)) e286_
  have e308_ := kg_fr (gh304_ _ (tg_z t291_ (by decide) z303_)) e287_
  have e309_ := kce_fr (gh304_ _ (tg_z t294_ (by decide) z303_)) e288_
  refine k_new (n := 3) Wh304_ (by omega) rfl (fun h310_ sh310_ uh310_ eh310_ gh310_ Wh310_ zh310_ => ?_)
  have e311_ := kg_fr (gh310_ _ (Nat.ne_of_lt (tG_lt Wh304_ t289_ (by decide)))) e305_
  have e312_ := kg_fr (gh310_ _ (Nat.ne_of_lt (tG_lt Wh304_ t289_ (by decide)))) e306_
  have e313_ := kg_fr (gh310_ _ (Nat.ne_of_lt (tG_lt Wh304_ t291_ (by decide)))) e307_
  have e314_ := kg_fr (gh310_ _ (Nat.ne_of_lt (tG_lt Wh304_ t291_ (by decide)))) e308_
  have e315_ := kce_fr (gh310_ _ (Nat.ne_of_lt (tG_lt Wh304_ t294_ (by decide)))) e309_
  have e316_ := (gh310_ _ (by omega)).trans eh304_'
  refine k_cA (by omega) (by omega) (by first | decide | exact fun _ q => q) (kX10_init (R := 0) Wh310_ (by omega) zh310_ eh310_  (by first | omega | assumption | decide) (by first | omega | assumption | decide)) (fun v318_ h317_ Gh317_ fh317_ qh317_ => ?_)
  have Wh317_ := fh317_.1
  have sh317_ := fh317_.2.1
  have th317_ := fh317_.2.2.1
  have uh317_ := fh317_.2.2.2.1
  have e319_ := kg_fr (fh317_.2.2.2.2.2 _ (tG_lt Wh310_ t289_ (by decide)) (tg_z t289_ (by decide) zh310_) (by rw [t289_.1, t289_.2]; first | decide | simp)) e311_
  have e320_ := kg_fr (fh317_.2.2.2.2.2 _ (tG_lt Wh310_ t289_ (by decide)) (tg_z t289_ (by decide) zh310_) (by rw [t289_.1, t289_.2]; first | decide | simp)) e312_
  have e321_ := kg_fr (fh317_.2.2.2.2.2 _ (tG_lt Wh310_ t291_ (by decide)) (tg_z t291_ (by decide) zh310_) (by rw [t291_.1, t291_.2]; first | decide | simp)) e313_
  have e322_ := kg_fr (fh317_.2.2.2.2.2 _ (tG_lt Wh310_ t291_ (by decide)) (tg_z t291_ (by decide) zh310_) (by rw [t291_.1, t291_.2]; first | decide | simp)) e314_
  have e323_ := kce_fr (fh317_.2.2.2.2.2 _ (tG_lt Wh310_ t294_ (by decide)) (tg_z t294_ (by decide) zh310_) (by rw [t294_.1, t294_.2]; first | decide | simp)) e315_
  have t324_ := tg_up fh317_ Wh310_ t289_ (by decide) (tg_z t289_ (by decide) zh310_)
  have t325_ := tg_up fh317_ Wh310_ t290_ (by decide) (tg_z t290_ (by decide) zh310_)
  have := tg_upl fh317_ Wh310_ t290_ (by decide) (tg_z t290_ (by decide) zh310_)
  have t326_ := tg_up fh317_ Wh310_ t291_ (by decide) (tg_z t291_ (by decide) zh310_)
  have t327_ := tg_up fh317_ Wh310_ t292_ (by decide) (tg_z t292_ (by decide) zh310_)
  have := tg_upl fh317_ Wh310_ t292_ (by decide) (tg_z t292_ (by decide) zh310_)
  have t328_ := tg_up fh317_ Wh310_ t293_ (by decide) (tg_z t293_ (by decide) zh310_)
  have t329_ := tg_up fh317_ Wh310_ t294_ (by decide) (tg_z t294_ (by decide) zh310_)
  have := tg_upl fh317_ Wh310_ t294_ (by decide) (tg_z t294_ (by decide) zh310_)
  have t330_ := tg_up fh317_ Wh310_ t295_ (by decide) (tg_z t295_ (by decide) zh310_)
  have t331_ := tg_up fh317_ Wh310_ t296_ (by decide) (tg_z t296_ (by decide) zh310_)
  have t332_ := tg_up fh317_ Wh310_ t297_ (by decide) (tg_z t297_ (by decide) zh310_)
  have t333_ := tg_up fh317_ Wh310_ t298_ (by decide) (tg_z t298_ (by decide) zh310_)
  have t334_ := tg_up fh317_ Wh310_ t299_ (by decide) (tg_z t299_ (by decide) zh310_)
  have := tg_upl fh317_ Wh310_ t299_ (by decide) (tg_z t299_ (by decide) zh310_)
  have t335_ := tg_up fh317_ Wh310_ t300_ (by decide) (tg_z t300_ (by decide) zh310_)
  have t336_ := tg_up fh317_ Wh310_ t301_ (by decide) (tg_z t301_ (by decide) zh310_)
  have t337_ := tg_up fh317_ Wh310_ qh282_ (by decide) (tg_z qh282_ (by decide) zh310_)
  have e338_ := (fh317_.2.2.2.2.2 _ (by omega) (by omega) (by rw [z303_]; simp)).trans e316_
  have z339_ : (Gh317_ a0).1 = 0 := by rw [fh317_.2.2.2.2.1 _ (by omega) (by omega)]; exact z303_
  refine k_raw Wh317_ z339_ (Or.inl rfl) e338_ (by first | decide | simp) (fun h340_ sh340_ uh340_ eh340_ gh340_ Wh340_ => ?_)
  have eh340_' : h340_.2.2 a0 = some (.inr (11, [sm_v (vR (some h.1)), sm_v (vR (some h6_.1)), sm_v (vR (some h20_.1)), sm_v (vR (some h43_.1)), sm_v (vR (some h60_.1)), sm_v (vR (some h88_.1)), sm_v (vR (some h117_.1)), sm_v (vR (some h147_.1)), sm_v (vR (some h178_.1)), sm_v (vR (some h202_.1)), sm_v (vR (some h235_.1)), sm_v (vR (some h269_.1)), sm_v (vR (some h304_.1)), .null, .int 0, .int 0, .long 0])) := eh340_
  have e341_ := kg_fr (gh340_ _ (tg_z t324_ (by decide) z339_)) e319_
  have e342_ := kg_fr (gh340_ _ (tg_z t324_ (by decide) z339_)) e320_
  have e343_ := kg_fr (gh340_ _ (tg_z t326_ (by decide) z339_)) e321_
  have e344_ := kg_fr (gh340_ _ (tg_z t326_ (by decide) z339_)) e322_
  have e345_ := kce_fr (gh340_ _ (tg_z t329_ (by decide) z339_)) e323_
  refine k_new (n := 3) Wh340_ (by omega) rfl (fun h346_ sh346_ uh346_ eh346_ gh346_ Wh346_ zh346_ => ?_)
  have e347_ := kg_fr (gh346_ _ (Nat.ne_of_lt (tG_lt Wh340_ t324_ (by decide)))) e341_
  have e348_ := kg_fr (gh346_ _ (Nat.ne_of_lt (tG_lt Wh340_ t324_ (by decide)))) e342_
  have e349_ := kg_fr (gh346_ _ (Nat.ne_of_lt (tG_lt Wh340_ t326_ (by decide)))) e343_
  have e350_ := kg_fr (gh346_ _ (Nat.ne_of_lt (tG_lt Wh340_ t326_ (by decide)))) e344_
  have e351_ := kce_fr (gh346_ _ (Nat.ne_of_lt (tG_lt Wh340_ t329_ (by decide)))) e345_
  have e352_ := (gh346_ _ (by omega)).trans eh340_'
  refine k_cA (by omega) (by omega) (by first | decide | exact fun _ q => q) (kX10_init (R := 0) Wh346_ (by omega) zh346_ eh346_  (by first | omega | assumption | decide) (by first | omega | assumption | decide)) (fun v354_ h353_ Gh353_ fh353_ qh353_ => ?_)
  have Wh353_ := fh353_.1
  have sh353_ := fh353_.2.1
  have th353_ := fh353_.2.2.1
  have uh353_ := fh353_.2.2.2.1
  have e355_ := kg_fr (fh353_.2.2.2.2.2 _ (tG_lt Wh346_ t324_ (by decide)) (tg_z t324_ (by decide) zh346_) (by rw [t324_.1, t324_.2]; first | decide | simp)) e347_
  have e356_ := kg_fr (fh353_.2.2.2.2.2 _ (tG_lt Wh346_ t324_ (by decide)) (tg_z t324_ (by decide) zh346_) (by rw [t324_.1, t324_.2]; first | decide | simp)) e348_
  have e357_ := kg_fr (fh353_.2.2.2.2.2 _ (tG_lt Wh346_ t326_ (by decide)) (tg_z t326_ (by decide) zh346_) (by rw [t326_.1, t326_.2]; first | decide | simp)) e349_
  have e358_ := kg_fr (fh353_.2.2.2.2.2 _ (tG_lt Wh346_ t326_ (by decide)) (tg_z t326_ (by decide) zh346_) (by rw [t326_.1, t326_.2]; first | decide | simp)) e350_
  have e359_ := kce_fr (fh353_.2.2.2.2.2 _ (tG_lt Wh346_ t329_ (by decide)) (tg_z t329_ (by decide) zh346_) (by rw [t329_.1, t329_.2]; first | decide | simp)) e351_
  have t360_ := tg_up fh353_ Wh346_ t324_ (by decide) (tg_z t324_ (by decide) zh346_)
  have t361_ := tg_up fh353_ Wh346_ t325_ (by decide) (tg_z t325_ (by decide) zh346_)
  have := tg_upl fh353_ Wh346_ t325_ (by decide) (tg_z t325_ (by decide) zh346_)
  have t362_ := tg_up fh353_ Wh346_ t326_ (by decide) (tg_z t326_ (by decide) zh346_)
  have t363_ := tg_up fh353_ Wh346_ t327_ (by decide) (tg_z t327_ (by decide) zh346_)
  have := tg_upl fh353_ Wh346_ t327_ (by decide) (tg_z t327_ (by decide) zh346_)
  have t364_ := tg_up fh353_ Wh346_ t328_ (by decide) (tg_z t328_ (by decide) zh346_)
  have t365_ := tg_up fh353_ Wh346_ t329_ (by decide) (tg_z t329_ (by decide) zh346_)
  have := tg_upl fh353_ Wh346_ t329_ (by decide) (tg_z t329_ (by decide) zh346_)
  have t366_ := tg_up fh353_ Wh346_ t330_ (by decide) (tg_z t330_ (by decide) zh346_)
  have t367_ := tg_up fh353_ Wh346_ t331_ (by decide) (tg_z t331_ (by decide) zh346_)
  have t368_ := tg_up fh353_ Wh346_ t332_ (by decide) (tg_z t332_ (by decide) zh346_)
  have t369_ := tg_up fh353_ Wh346_ t333_ (by decide) (tg_z t333_ (by decide) zh346_)
  have t370_ := tg_up fh353_ Wh346_ t334_ (by decide) (tg_z t334_ (by decide) zh346_)
  have := tg_upl fh353_ Wh346_ t334_ (by decide) (tg_z t334_ (by decide) zh346_)
  have t371_ := tg_up fh353_ Wh346_ t335_ (by decide) (tg_z t335_ (by decide) zh346_)
  have t372_ := tg_up fh353_ Wh346_ t336_ (by decide) (tg_z t336_ (by decide) zh346_)
  have t373_ := tg_up fh353_ Wh346_ t337_ (by decide) (tg_z t337_ (by decide) zh346_)
  have t374_ := tg_up fh353_ Wh346_ qh317_ (by decide) (tg_z qh317_ (by decide) zh346_)
  have e375_ := (fh353_.2.2.2.2.2 _ (by omega) (by omega) (by rw [z339_]; simp)).trans e352_
  have z376_ : (Gh353_ a0).1 = 0 := by rw [fh353_.2.2.2.2.1 _ (by omega) (by omega)]; exact z339_
  refine k_raw Wh353_ z376_ (Or.inl rfl) e375_ (by first | decide | simp) (fun h377_ sh377_ uh377_ eh377_ gh377_ Wh377_ => ?_)
  have eh377_' : h377_.2.2 a0 = some (.inr (11, [sm_v (vR (some h.1)), sm_v (vR (some h6_.1)), sm_v (vR (some h20_.1)), sm_v (vR (some h43_.1)), sm_v (vR (some h60_.1)), sm_v (vR (some h88_.1)), sm_v (vR (some h117_.1)), sm_v (vR (some h147_.1)), sm_v (vR (some h178_.1)), sm_v (vR (some h202_.1)), sm_v (vR (some h235_.1)), sm_v (vR (some h269_.1)), sm_v (vR (some h304_.1)), sm_v (vR (some h340_.1)), .int 0, .int 0, .long 0])) := eh377_
  have e378_ := kg_fr (gh377_ _ (tg_z t360_ (by decide) z376_)) e355_
  have e379_ := kg_fr (gh377_ _ (tg_z t360_ (by decide) z376_)) e356_
  have e380_ := kg_fr (gh377_ _ (tg_z t362_ (by decide) z376_)) e357_
  have e381_ := kg_fr (gh377_ _ (tg_z t362_ (by decide) z376_)) e358_
  have e382_ := kce_fr (gh377_ _ (tg_z t365_ (by decide) z376_)) e359_
  refine k_raw Wh377_ z376_ (Or.inl rfl) eh377_' (by first | decide | simp) (fun h383_ sh383_ uh383_ eh383_ gh383_ Wh383_ => ?_)
  have eh383_' : h383_.2.2 a0 = some (.inr (11, [sm_v (vR (some h.1)), sm_v (vR (some h6_.1)), sm_v (vR (some h20_.1)), sm_v (vR (some h43_.1)), sm_v (vR (some h60_.1)), sm_v (vR (some h88_.1)), sm_v (vR (some h117_.1)), sm_v (vR (some h147_.1)), sm_v (vR (some h178_.1)), sm_v (vR (some h202_.1)), sm_v (vR (some h235_.1)), sm_v (vR (some h269_.1)), sm_v (vR (some h304_.1)), sm_v (vR (some h340_.1)), .int 0, sm_v (vI (484 : Int32)), .long 0])) := eh383_
  have e384_ := kg_fr (gh383_ _ (tg_z t360_ (by decide) z376_)) e378_
  have e385_ := kg_fr (gh383_ _ (tg_z t360_ (by decide) z376_)) e379_
  have e386_ := kg_fr (gh383_ _ (tg_z t362_ (by decide) z376_)) e380_
  have e387_ := kg_fr (gh383_ _ (tg_z t362_ (by decide) z376_)) e381_
  have e388_ := kce_fr (gh383_ _ (tg_z t365_ (by decide) z376_)) e382_
  exact k_rN (ci := 11) (r := 0) Wh383_ z376_ (by omega) (by decide) eh383_' ⟨⟨some h.1, rfl, fun _ => by simp, tN_s t360_⟩, ⟨some h6_.1, rfl, fun _ => by simp, tN_s t362_⟩, ⟨some h20_.1, rfl, fun _ => by simp, tN_s t364_⟩, ⟨some h43_.1, rfl, fun _ => by simp, tN_s t365_⟩, ⟨some h60_.1, rfl, fun _ => by simp, tN_s t366_⟩, ⟨some h88_.1, rfl, fun _ => by simp, tN_s t367_⟩, ⟨some h117_.1, rfl, fun _ => by simp, tN_s t368_⟩, ⟨some h147_.1, rfl, fun _ => by simp, tN_s t369_⟩, ⟨some h178_.1, rfl, fun _ => by simp, tN_s t370_⟩, ⟨some h202_.1, rfl, fun _ => by simp, tN_s t371_⟩, ⟨some h235_.1, rfl, fun _ => by simp, tN_s t372_⟩, ⟨some h269_.1, rfl, fun _ => by simp, tN_s t373_⟩, ⟨some h304_.1, rfl, fun _ => by simp, tN_s t374_⟩, ⟨some h340_.1, rfl, fun _ => by simp, tN_s qh353_⟩, ⟨_, rfl, i_lo _, i_hi _⟩, ⟨_, rfl, i_lo _, i_hi _⟩, ⟨_, rfl⟩, trivial⟩ (by omega) (by omega) (fun _ g t _ => ⟨t, ⟨h.1, it0, ⟨by rw [pu_get eh383_']; rfl, e384_, e385_⟩, tg_nw g (tg_z t360_ (by decide) z376_) t360_, tg_nw g (tg_z t361_ (by decide) z376_) t361_, by rw [g _ (tg_z t361_ (by decide) z376_)]; omega⟩, ⟨h6_.1, it1, ⟨by rw [pu_get eh383_']; rfl, e386_, e387_⟩, tg_nw g (tg_z t362_ (by decide) z376_) t362_, tg_nw g (tg_z t363_ (by decide) z376_) t363_, by rw [g _ (tg_z t363_ (by decide) z376_)]; omega⟩, h43_.1, by rw [pu_get eh383_']; rfl, by rw [pu_get eh383_']; rfl, e388_⟩)
