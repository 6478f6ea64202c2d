theorem kce_fr {h h1 : sm_H} {a : Nat} {q : Option sm_E} (f : h1.2.2 a = h.2.2 a) (e : h.2.2 a = q) : h1.2.2 a = q := f.trans e
theorem k_nwaS {Rt : Type} {G : GT} {h : sm_H} {N x M1 M2 tt n ρ : Nat} {E : List (Nat × Nat)} {Q : GT → Rt → sm_H → Prop} {d : (Nat → Int32) ⊕ (Nat → Int64) ⊕ (Nat → UInt32) ⊕ (Nat → UInt64) ⊕ (Nat → Option Nat)} {X : sm_H → Option (Rt × sm_H)} (W : Wf G h) (hN : N ≤ h.1) (ht : tt < 10) (hn : n ≤ aB (20 + tt)) (hd : ∀ G', dok G' (20 + tt) d) (kk : ∀ h1 G1, h1.1 = h.1 + 1 → h1.2.1 = h.2.1 + n → (∀ b, b ≠ h.1 → h1.2.2 b = h.2.2 b) → (∀ b, b ≠ h.1 → G1 b = G b) → Wf G1 h1 → tG G1 h.1 (20 + tt) ρ → (G1 h.1).2.1 = n → h1.2.2 h.1 = some (.inl (tt, n, d)) → kJ (RA N x E M1 M2 G1 h1 Q) (X h1)) : kJ (RA N x E M1 M2 G h Q) (sm_let (sm_nwa h tt n d) X) := by
  have hf : ∀ b, b ≠ h.1 → (sm_nwa h tt n d).2.2 b = h.2.2 b := fun b hb => by simp [sm_nwa, va_up, hb]
  have hg : ∀ b, b ≠ h.1 → (fun b => if b = h.1 then (20 + tt, n, ρ) else G b) b = G b := fun b hb => by simp [hb]
  refine k_st (h1 := sm_nwa h tt n d) (G1 := fun b => if b = h.1 then (20 + tt, n, ρ) else G b) (by simp [sm_nwa]) (fun b p1 p2 => hg b (by omega)) (fun b p1 p2 _ => hf b (by omega)) ?_
  refine kk _ _ rfl rfl hf hg (fun b hb => ?_) (by simp [tG]) (by simp) (by simp [sm_nwa, va_up])
  by_cases hb2 : b = h.1
  · subst hb2
    refine ⟨by simp [sm_nwa], _, by simp [sm_nwa, va_up]; rfl, ?_⟩
    simp only [if_pos rfl]
    unfold okc
    rw [if_neg (by simp)]
    exact ⟨by simp; omega, d, by simp, hn, hd _⟩
  · simp only [if_neg hb2] at hb ⊢
    obtain ⟨p1, e, p2, p3⟩ := W b hb
    refine ⟨by simp [sm_nwa]; omega, e, by rw [hf b hb2]; exact p2, okm (fun b' hb' => hg b' ?_) p3⟩
    have := (W b' hb').1; omega
-- a fresh object: its tree, its counts, its answer
def FT (h : sm_H) (x : Nat) : Prop := ∃ tr th io tb, sm_get h (some x) 11 2 = some (va_rf (some tr)) ∧ h.2.2 tr = some (.inr (9, [.ref th, .ref io, .ref tb, .int 0, .int 0])) ∧ h.2.2 th = some (.inl (4, 40, .inr (.inr (.inr (.inr (fun _ => none)))))) ∧ h.2.2 tb = some (.inl (5, 4, .inr (.inr (.inr (.inr (fun _ => none))))))
def FC (h : sm_H) (x : Nat) : Prop := ∃ cn, sm_get h (some x) 11 8 = some (va_rf (some cn)) ∧ h.2.2 cn = some (.inl (0, 8, .inl (fun _ => 0)))
def FO (h : sm_H) (x : Nat) : Prop := ∃ rp oc, sm_get h (some x) 11 7 = some (va_rf (some rp)) ∧ sm_get h (some rp) 6 0 = some (va_rf (some oc)) ∧ sm_get h (some oc) 0 1 = some (.int 0)
set_option maxHeartbeats 4000000 in
theorem kX9_initS {G : GT} {a0 : Nat} {h : sm_H} (Wh : Wf G h) (l_a0 : a0 < h.1) (z_a0 : (G a0).1 = 0) (e_a0 : h.2.2 a0 = some (.inr (9, [.null, .null, .null, .int 0, .int 0]))) : kJ (RA h.1 a0 [] (h.1 + 3) (h.2.1 + 84) G h (fun (G : GT) (_ : Unit) (h' : sm_H) => tG G a0 10 0 ∧ ∃ th io tb, tG G th 24 0 ∧ tG G tb 25 0 ∧ h'.2.2 a0 = some (.inr (9, [.ref th, .ref io, .ref tb, .int 0, .int 0])) ∧ h'.2.2 th = some (.inl (4, 40, .inr (.inr (.inr (.inr (fun _ => none)))))) ∧ h'.2.2 tb = some (.inl (5, 4, .inr (.inr (.inr (.inr (fun _ => none)))))))) (fX9_init a0 h) := by
  have L0 : (0 : Int32).toInt = 0 := rfl
  unfold fX9_init
  rw [if_neg (by decide)]
  try rw [show ((40 : Int32)).toNatClampNeg = 40 from rfl]
  refine k_nwaS (ρ := 0) Wh (by omega) (by decide) (by decide) (dk_R 4 (by decide)) (fun h1 G1 s1 u1 g1 k1 W1 t1 l1 c1 => ?_)
  have e2 := (g1 _ (by omega)).trans e_a0
  have z3 : (G1 a0).1 = 0 := by rw [k1 _ (by omega)]; exact z_a0
  refine k_raw W1 z3 (Or.inl rfl) e2 (by first | decide | simp) (fun h4 s4 u4 e4 g4 W4 => ?_)
  have e4' : h4.2.2 a0 = some (.inr (9, [sm_v (vR (some h.1)), .null, .null, .int 0, .int 0])) := e4
  have c4 := kce_fr (g4 _ (by omega)) c1
  rw [if_neg (by decide)]
  try rw [show ((40 : Int32)).toNatClampNeg = 40 from rfl]
  refine k_nwa (ρ := 0) W4 (by omega) (by decide) (by decide) (dk_R 4 (by decide)) (fun h5 G5 s5 u5 g5 k5 W5 t5 l5 => ?_)
  have t6 := tg_nw k5 (Nat.ne_of_lt (tG_lt W4 t1 (by decide))) t1
  have c5 := kce_fr (g5 _ (by omega)) c4
  have e7 := (g5 _ (by omega)).trans e4'
  have z8 : (G5 a0).1 = 0 := by rw [k5 _ (by omega)]; exact z3
  refine k_raw W5 z8 (Or.inl rfl) e7 (by first | decide | simp) (fun h9 s9 u9 e9 g9 W9 => ?_)
  have e9' : h9.2.2 a0 = some (.inr (9, [sm_v (vR (some h.1)), sm_v (vR (some h4.1)), .null, .int 0, .int 0])) := e9
  have c9 := kce_fr (g9 _ (by omega)) c5
  rw [if_neg (by decide)]
  try rw [show ((4 : Int32)).toNatClampNeg = 4 from rfl]
  refine k_nwaS (ρ := 0) W9 (by omega) (by decide) (by decide) (dk_R 5 (by decide)) (fun h10 G10 s10 u10 g10 k10 W10 t10 l10 c10 => ?_)
  have t11 := tg_nw k10 (Nat.ne_of_lt (tG_lt W9 t6 (by decide))) t6
  have t12 := tg_nw k10 (Nat.ne_of_lt (tG_lt W9 t5 (by decide))) t5
  have c11 := kce_fr (g10 _ (by omega)) c9
  have e13 := (g10 _ (by omega)).trans e9'
  have z14 : (G10 a0).1 = 0 := by rw [k10 _ (by omega)]; exact z8
  refine k_raw W10 z14 (Or.inl rfl) e13 (by first | decide | simp) (fun h15 s15 u15 e15 g15 W15 => ?_)
  have e15' : h15.2.2 a0 = some (.inr (9, [sm_v (vR (some h.1)), sm_v (vR (some h4.1)), sm_v (vR (some h9.1)), .int 0, .int 0])) := e15
  have c15 := kce_fr (g15 _ (by omega)) c11
  have c16 := kce_fr (g15 _ (by omega)) c10
  exact k_rN (ci := 9) (r := 0) W15 z14 (by omega) (by decide) e15' ⟨⟨some h.1, rfl, fun _ => by simp, tN_s t11⟩, ⟨some h4.1, rfl, fun _ => by simp, tN_s t12⟩, ⟨some h9.1, rfl, fun _ => by simp, tN_s t10⟩, ⟨_, rfl, by decide, by decide⟩, ⟨_, rfl, by decide, by decide⟩, trivial⟩ (by omega) (by omega) (fun _ g t _ => ⟨t, h.1, h4.1, h9.1, tg_nw g (tg_z t11 (by decide) z14) t11, tg_nw g (tg_z t10 (by decide) z14) t10, e15', c15, c16⟩)
set_option maxHeartbeats 4000000 in
theorem kX5_initS {G : GT} {a0 : Nat} {a1 : Nat} {h : sm_H} (Wh : Wf G h) (l_a0 : a0 < h.1) (z_a0 : (G a0).1 = 0) (e_a0 : h.2.2 a0 = some (.inr (5, [.null, .null, .int 0]))) (t_a1 : tG G a1 1 1) : kJ (RA h.1 a0 [] (h.1 + 3) (h.2.1 + 5) G h (fun (G : GT) (_ : Unit) (h' : sm_H) => tG G a0 6 0 ∧ sm_get h' (some a0) 5 0 = some (va_rf (some a1)))) (fX5_init a0 (some a1) h) := by
  have L0 : (0 : Int32).toInt = 0 := rfl
  have L1 : (1 : Int32).toInt = 1 := rfl
  have L2 : (2 : Int32).toInt = 2 := rfl
  unfold fX5_init
  refine k_new (n := 3) Wh (by omega) rfl (fun h1_ sh1_ uh1_ eh1_ gh1_ Wh1_ zh1_ => ?_)
  have e2_ := (gh1_ _ (by omega)).trans e_a0
  refine k_cA (by omega) (by omega) (by first | decide | exact fun _ q => q) (kX10_init (R := 0) Wh1_ (by omega) zh1_ eh1_  (by first | omega | assumption | decide) (by first | omega | assumption | decide)) (fun v4_ h3_ Gh3_ fh3_ qh3_ => ?_)
  have Wh3_ := fh3_.1
  have sh3_ := fh3_.2.1
  have th3_ := fh3_.2.2.1
  have uh3_ := fh3_.2.2.2.1
  have t5_ := tg_up fh3_ Wh1_ t_a1 (by decide) (tg_z t_a1 (by decide) zh1_)
  have e6_ := (fh3_.2.2.2.2.2 _ (by omega) (by omega) (by rw [z_a0]; simp)).trans e2_
  have z7_ : (Gh3_ a0).1 = 0 := by rw [fh3_.2.2.2.2.1 _ (by omega) (by omega)]; exact z_a0
  refine k_raw Wh3_ z7_ (Or.inl rfl) e6_ (by first | decide | simp) (fun h8_ sh8_ uh8_ eh8_ gh8_ Wh8_ => ?_)
  have eh8_' : h8_.2.2 a0 = some (.inr (5, [.null, sm_v (vR (some h.1)), .int 0])) := eh8_
  refine k_raw Wh8_ z7_ (Or.inl rfl) eh8_' (by first | decide | simp) (fun h9_ sh9_ uh9_ eh9_ gh9_ Wh9_ => ?_)
  have eh9_' : h9_.2.2 a0 = some (.inr (5, [sm_v (vR (some a1)), sm_v (vR (some h.1)), .int 0])) := eh9_
  exact k_rN (ci := 5) (r := 0) Wh9_ z7_ (by omega) (by decide) eh9_' ⟨⟨some a1, rfl, fun _ => by simp, tN_s t5_⟩, ⟨some h.1, rfl, fun _ => by simp, tN_s qh3_⟩, ⟨_, rfl, by first | decide | (rcases p0_ with rfl | rfl <;> decide), by first | decide | (rcases p0_ with rfl | rfl <;> decide)⟩, trivial⟩ (by omega) (by omega) (fun _ _ t _ => ⟨t, by rw [pu_get eh9_']; rfl⟩)
set_option maxHeartbeats 4000000 in
theorem kX6_init_39S : ∀ (n : Nat) (G : GT) (a0 : Nat) (a1 : Nat) (a2 : Int32) (h : sm_H) (N M1 M2 : Nat) (vs : List Value) (ps : Nat), Wf G h → N ≤ h.1 → a0 < N → (G a0).1 = 0 → h.2.2 a0 = some (.inr (6, vs)) → fa G 0 (FTs 7) vs → vs[1]? = some (.ref ps) → tG G ps 27 0 → (G ps).2.1 ≤ 40 → tG G a1 11 0 → 0 ≤ a2.toInt → a2.toInt ≤ 40 → 40 - a2.toInt < (n : Int) → (h.1 : Int) + 3 * (40 - a2.toInt) ≤ (M1 : Int) → (h.2.1 : Int) + 20 * (40 - a2.toInt) ≤ (M2 : Int) → kJ (RA N a0 [(27, 0)] M1 M2 G h (fun (G : GT) (_ : Unit) (h' : sm_H) => tG G a0 7 0 ∧ h'.2.2 a0 = some (.inr (6, vs)))) (fX6_init_39 n a0 (some a1) a2 h) := by
  have L1 : (1 : Int32).toInt = 1 := rfl
  intro n
  induction n with
  | zero => intro G a0 a1 a2 h N M1 M2 vs ps W hN ha z e hf hv t hl t1 c0 c1 m m1 m2; exfalso; omega
  | succ n ih =>
    intro G a0 a1 a2 h N M1 M2 vs ps W hN ha z e hf hv t hl t1 c0 c1 m m1 m2
    unfold fX6_init_39
    refine k_kR (x := some ps) (by rw [pu_get e, hv]; rfl) ?_
    refine k_len (B := 40) W t rfl (fun x2 l2 u2 => ?_)
    refine k_le (fun c => ?_) (fun c => ?_)
    · exact k_rN (ci := 6) (r := 0) W z (by omega) (by decide) e hf (by omega) (by omega) (fun _ _ t _ => ⟨t, e⟩)
    · refine k_kR (x := some ps) (by rw [pu_get e, hv]; rfl) ?_
      refine k_new (n := 2) W (by omega) rfl (fun h4 s4 u4 e4 g4 W4 z4 => ?_)
      have ea4 := (g4 a0 (by omega)).trans e
      refine k_cA (by omega) (by omega) (by decide) (kX4_init W4 (by omega) z4 e4 t1) (fun v7 h7 G7 f7 q7 => ?_)
      have W7 := f7.1
      have s7 := f7.2.1
      have s7' := f7.2.2.1
      have u7 := f7.2.2.2.1
      have ea7 := (f7.2.2.2.2.2 a0 (by omega) (by omega) (by rw [z]; simp)).trans ea4
      have za7 : (G7 a0).1 = 0 := by rw [f7.2.2.2.2.1 a0 (by omega) (by omega)]; exact z
      have t7 := tg_up f7 W4 t (by decide) (tg_z t (by decide) z4)
      have tl7 := tg_upl f7 W4 t (by decide) (tg_z t (by decide) z4)
      have t17 := tg_up f7 W4 t1 (by decide) (tg_z t1 (by decide) z4)
      have hf7 := fa_m (fA_m f7 W4 z4) (by decide) hf
      refine k_A t7 (by decide) (w_sR W7 t7 (by decide) (by decide) rfl (by omega) (by omega) (tN_s q7)) (fun h8 o8 _ => ?_)
      have s8 := o8.2.1
      have u8 := o8.2.2.1
      have ea8 := (o8.2.2.2 a0 (tg_z t7 (by decide) za7).symm).trans ea7
      refine k_add (by omega) (by omega) (fun x9 q9 => ?_)
      exact ih G7 a0 a1 x9 h8 N M1 M2 vs ps o8.1 (by omega) ha za7 ea8 hf7 hv t7 (by omega) t17 (by omega) (by omega) (by omega) (by omega) (by omega)
set_option maxHeartbeats 4000000 in
theorem kX6_initS {G : GT} {a0 : Nat} {h : sm_H} (Wh : Wf G h) (l_a0 : a0 < h.1) (z_a0 : (G a0).1 = 0) (e_a0 : h.2.2 a0 = some (.inr (6, [.null, .null, .int 0, .int 0, .int 0, .int 0]))) : kJ (RA h.1 a0 [(27, 0)] (h.1 + 126) (h.2.1 + 1850) G h (fun (G : GT) (_ : Unit) (h' : sm_H) => tG G a0 7 0 ∧ ∃ oc, tG G oc 1 0 ∧ sm_get h' (some a0) 6 0 = some (va_rf (some oc)) ∧ sm_get h' (some oc) 0 1 = some (.int 0))) (fX6_init a0 h) := by
  have L0 : (0 : Int32).toInt = 0 := rfl
  have L1 : (1 : Int32).toInt = 1 := rfl
  have L5 : (5 : Int32).toInt = 5 := rfl
  have L40 : (40 : Int32).toInt = 40 := rfl
  have L1000 : (1000 : Int32).toInt = 1000 := rfl
  unfold fX6_init
  refine k_new (n := 2) Wh (by omega) rfl (fun h1_ sh1_ uh1_ eh1_ gh1_ Wh1_ zh1_ => ?_)
  have e2_ := (gh1_ _ (by omega)).trans e_a0
  refine k_cA (by omega) (by omega) (by first | decide | exact fun _ q => q) (kX0_initS (ρ := 0) (R := 1000) Wh1_ (by omega) zh1_ eh1_ (by omega) (by omega)) (fun v4_ h3_ Gh3_ fh3_ qh3_0 => ?_)
  obtain ⟨qh3_, it0, e0, ti0, li0, es0⟩ := qh3_0
  have Wh3_ := fh3_.1
  have sh3_ := fh3_.2.1
  have th3_ := fh3_.2.2.1
  have uh3_ := fh3_.2.2.2.1
  have e5_ := (fh3_.2.2.2.2.2 _ (by omega) (by omega) (by rw [z_a0]; simp)).trans e2_
  have z6_ : (Gh3_ a0).1 = 0 := by rw [fh3_.2.2.2.2.1 _ (by omega) (by omega)]; exact z_a0
  refine k_raw Wh3_ z6_ (Or.inl rfl) e5_ (by first | decide | simp) (fun h7_ sh7_ uh7_ eh7_ gh7_ Wh7_ => ?_)
  have es_h7_ := kg_fr (gh7_ _ (tg_z qh3_ (by decide) z6_)) es0
  have eh7_' : h7_.2.2 a0 = some (.inr (6, [sm_v (vR (some h.1)), .null, .int 0, .int 0, .int 0, .int 0])) := eh7_
  rw [if_neg (by decide)]
  try rw [show ((40 : Int32)).toNatClampNeg = 40 from rfl]
  refine k_nwa (ρ := 0) Wh7_ (by omega) (by decide) (by decide) (dk_R 7 (by decide)) (fun h8_ Gh8_ sh8_ uh8_ gh8_ kh8_ Wh8_ th8_ lh8_ => ?_)
  have es_h8_ := kg_fr (gh8_ _ (Nat.ne_of_lt (tG_lt Wh7_ qh3_ (by decide)))) es_h7_
  have t9_ := tg_nw kh8_ (Nat.ne_of_lt (tG_lt Wh7_ qh3_ (by decide))) qh3_
  have e10_ := (gh8_ _ (by omega)).trans eh7_'
  have z11_ : (Gh8_ a0).1 = 0 := by rw [kh8_ _ (by omega)]; exact z6_
  refine k_raw Wh8_ z11_ (Or.inl rfl) e10_ (by first | decide | simp) (fun h12_ sh12_ uh12_ eh12_ gh12_ Wh12_ => ?_)
  have es_h12_ := kg_fr (gh12_ _ (tg_z t9_ (by decide) z11_)) es_h8_
  have eh12_' : h12_.2.2 a0 = some (.inr (6, [sm_v (vR (some h.1)), sm_v (vR (some h7_.1)), .int 0, .int 0, .int 0, .int 0])) := eh12_
  refine k_new (n := 3) Wh12_ (by omega) rfl (fun h13_ sh13_ uh13_ eh13_ gh13_ Wh13_ zh13_ => ?_)
  have es_h13_ := kg_fr (gh13_ _ (Nat.ne_of_lt (tG_lt Wh12_ t9_ (by decide)))) es_h12_
  have e14_ := (gh13_ _ (by omega)).trans eh12_'
  refine k_cA (by omega) (by omega) (by first | decide | exact fun _ q => q) (kX10_init (R := 0) Wh13_ (by omega) zh13_ eh13_  (by first | omega | assumption | decide) (by first | omega | assumption | decide)) (fun v16_ h15_ Gh15_ fh15_ qh15_ => ?_)
  have es_h15_ := kg_fr (fh15_.2.2.2.2.2 _ (tG_lt Wh13_ t9_ (by decide)) (tg_z t9_ (by decide) zh13_) (by rw [t9_.1, t9_.2]; first | decide | simp)) es_h13_
  have Wh15_ := fh15_.1
  have sh15_ := fh15_.2.1
  have th15_ := fh15_.2.2.1
  have uh15_ := fh15_.2.2.2.1
  have t17_ := tg_up fh15_ Wh13_ t9_ (by decide) (tg_z t9_ (by decide) zh13_)
  have t18_ := tg_up fh15_ Wh13_ th8_ (by decide) (tg_z th8_ (by decide) zh13_)
  have := tg_upl fh15_ Wh13_ th8_ (by decide) (tg_z th8_ (by decide) zh13_)
  have e19_ := (fh15_.2.2.2.2.2 _ (by omega) (by omega) (by rw [z11_]; simp)).trans e14_
  have z20_ : (Gh15_ a0).1 = 0 := by rw [fh15_.2.2.2.2.1 _ (by omega) (by omega)]; exact z11_
  obtain ⟨r9, h9, G9, e9, F9, q9, v9⟩ := kX6_init_39S sm_fuel _ _ _ (0 : Int32) h15_ h15_.1 (h.1 + 126) (h.2.1 + 1850) _ _ Wh15_ (Nat.le_refl _) (by omega) z20_ e19_ ⟨⟨some h.1, rfl, fun _ => by simp, tN_s t17_⟩, ⟨some h7_.1, rfl, fun _ => by simp, tN_s t18_⟩, ⟨_, rfl, by first | decide | (rcases p0_ with rfl | rfl <;> decide), by first | decide | (rcases p0_ with rfl | rfl <;> decide)⟩, ⟨_, rfl, i_lo _, i_hi _⟩, ⟨_, rfl, i_lo _, i_hi _⟩, ⟨_, rfl, i_lo _, i_hi _⟩, trivial⟩ rfl t18_ (by omega) qh15_ (by first | omega | decide) (by first | omega | decide) (by simp only [sm_fuel_eq]; omega) (by omega) (by omega)
  have ln9 := tG_lt Wh15_ t17_ (by decide)
  have ne9 := tg_z t17_ (by decide) z20_
  refine ⟨r9, h9, G9, e9, ⟨F9.1, F9.2.1, F9.2.2.1, F9.2.2.2.1, fun a p1 p2 => F9.2.2.2.2.1 a (by omega) p2, fun a p1 p2 p3 => F9.2.2.2.2.2 a (by omega) p2 p3⟩, q9, h.1, ?_, by rw [pu_get v9]; rfl, kg_fr (F9.2.2.2.2.2 _ ln9 ne9 (by rw [t17_.1, t17_.2]; simp)) es_h15_⟩
  unfold tG; rw [F9.2.2.2.2.1 _ ln9 ne9]; exact t17_
set_option maxHeartbeats 4000000 in
theorem kXP11_init {G : GT} {a0 : Nat} {h : sm_H} (Wh : Wf G h) (l_a0 : a0 < h.1) (z_a0 : (G a0).1 = 0) (e_a0 : h.2.2 a0 = some (.inr (11, [.null, .null, .null, .null, .null, .null, .null, .null, .null, .null, .null, .null, .null, .null, .int 0, .int 0, .long 0]))) : kJ (RA h.1 a0 [(27, 0)] (h.1 + 400) (h.2.1 + 12000) G h (fun (G : GT) (_ : Unit) (h' : sm_H) => tG G a0 12 0 ∧ (∃ tp it, CH 0 h' a0 tp it 0 ∧ tG G tp 1 1 ∧ tG G it 21 1 ∧ (G it).2.1 = 1200 ∧ ∃ rd, sm_get h' (some a0) 11 5 = some (va_rf (some rd)) ∧ sm_get h' (some rd) 5 0 = some (va_rf (some tp))) ∧ (∃ tp it, CH 1 h' a0 tp it 0 ∧ tG G tp 1 2 ∧ tG G it 21 2 ∧ (G it).2.1 = 16) ∧ (∃ ca, sm_get h' (some a0) 11 3 = some (va_rf (some ca)) ∧ sm_get h' (some a0) 11 14 = some (.int 0) ∧ h'.2.2 ca = some (.inl (6, 8, .inr (.inr (.inr (.inr (fun _ => none))))))) ∧ FT h' a0 ∧ FC h' a0 ∧ FO h' a0 ∧ sm_get h' (some a0) 11 15 = some (.int 484) ∧ sm_get h' (some a0) 11 16 = some (.long 0))) (fX11_init a0 h) := by
  have L0 : (0 : Int32).toInt = 0 := rfl
  have L1 : (1 : Int32).toInt = 1 := rfl
  have L8 : (8 : Int32).toInt = 8 := rfl
  have L16 : (16 : Int32).toInt = 16 := rfl
  have L67 : (67 : Int32).toInt = 67 := rfl
  have L128 : (128 : Int32).toInt = 128 := rfl
  have L129 : (129 : Int32).toInt = 129 := rfl
  have L130 : (130 : Int32).toInt = 130 := rfl
  have L484 : (484 : Int32).toInt = 484 := rfl
  have L1200 : (1200 : Int32).toInt = 1200 := rfl
  unfold fX11_init
  refine k_new (n := 2) Wh (by omega) rfl (fun h1_ sh1_ uh1_ eh1_ gh1_ Wh1_ zh1_ => ?_)
  have e2_ := (gh1_ _ (by omega)).trans e_a0
  refine k_cA (by omega) (by omega) (by first | decide | exact fun _ q => q) (kX0_initS (ρ := 1) (R := 1200) Wh1_ (by omega) zh1_ eh1_ (by omega) (by omega)) (fun _ h3_ Gh3_ fh3_ qh3_ => ?_)
  have Wh3_ := fh3_.1
  have sh3_ := fh3_.2.1
  have th3_ := fh3_.2.2.1
  have uh3_ := fh3_.2.2.2.1
  obtain ⟨qh3_a, it0, eh3_0, th3_i, lh3_i, eh3_1⟩ := qh3_
  have e4_ := (fh3_.2.2.2.2.2 _ (by omega) (by omega) (by rw [z_a0]; simp)).trans e2_
  have z5_ : (Gh3_ a0).1 = 0 := by rw [fh3_.2.2.2.2.1 _ (by omega) (by omega)]; exact z_a0
  refine k_raw Wh3_ z5_ (Or.inl rfl) e4_ (by first | decide | simp) (fun h6_ sh6_ uh6_ eh6_ gh6_ Wh6_ => ?_)
  have eh6_' : h6_.2.2 a0 = some (.inr (11, [sm_v (vR (some h.1)), .null, .null, .null, .null, .null, .null, .null, .null, .null, .null, .null, .null, .null, .int 0, .int 0, .long 0])) := eh6_
  have e7_ := kg_fr (gh6_ _ (tg_z qh3_a (by decide) z5_)) eh3_0
  have e8_ := kg_fr (gh6_ _ (tg_z qh3_a (by decide) z5_)) eh3_1
  refine k_new (n := 2) Wh6_ (by omega) rfl (fun h9_ sh9_ uh9_ eh9_ gh9_ Wh9_ zh9_ => ?_)
  have e10_ := kg_fr (gh9_ _ (Nat.ne_of_lt (tG_lt Wh6_ qh3_a (by decide)))) e7_
  have e11_ := kg_fr (gh9_ _ (Nat.ne_of_lt (tG_lt Wh6_ qh3_a (by decide)))) e8_
  have e12_ := (gh9_ _ (by omega)).trans eh6_'
  refine k_cA (by omega) (by omega) (by first | decide | exact fun _ q => q) (kX0_initS (ρ := 2) (R := 16) Wh9_ (by omega) zh9_ eh9_ (by omega) (by omega)) (fun _ h13_ Gh13_ fh13_ qh13_ => ?_)
  have Wh13_ := fh13_.1
  have sh13_ := fh13_.2.1
  have th13_ := fh13_.2.2.1
  have uh13_ := fh13_.2.2.2.1
  obtain ⟨qh13_a, it1, eh13_0, th13_i, lh13_i, eh13_1⟩ := qh13_
  have e14_ := kg_fr (fh13_.2.2.2.2.2 _ (tG_lt Wh9_ qh3_a (by decide)) (tg_z qh3_a (by decide) zh9_) (by rw [qh3_a.1, qh3_a.2]; first | decide | simp)) e10_
  have e15_ := kg_fr (fh13_.2.2.2.2.2 _ (tG_lt Wh9_ qh3_a (by decide)) (tg_z qh3_a (by decide) zh9_) (by rw [qh3_a.1, qh3_a.2]; first | decide | simp)) e11_
  have t16_ := tg_up fh13_ Wh9_ qh3_a (by decide) (tg_z qh3_a (by decide) zh9_)
  have t17_ := tg_up fh13_ Wh9_ th3_i (by decide) (tg_z th3_i (by decide) zh9_)
  have := tg_upl fh13_ Wh9_ th3_i (by decide) (tg_z th3_i (by decide) zh9_)
  have e18_ := (fh13_.2.2.2.2.2 _ (by omega) (by omega) (by rw [z5_]; simp)).trans e12_
  have z19_ : (Gh13_ a0).1 = 0 := by rw [fh13_.2.2.2.2.1 _ (by omega) (by omega)]; exact z5_
  refine k_raw Wh13_ z19_ (Or.inl rfl) e18_ (by first | decide | simp) (fun h20_ sh20_ uh20_ eh20_ gh20_ Wh20_ => ?_)
  have eh20_' : h20_.2.2 a0 = some (.inr (11, [sm_v (vR (some h.1)), sm_v (vR (some h6_.1)), .null, .null, .null, .null, .null, .null, .null, .null, .null, .null, .null, .null, .int 0, .int 0, .long 0])) := eh20_
  have e21_ := kg_fr (gh20_ _ (tg_z t16_ (by decide) z19_)) e14_
  have e22_ := kg_fr (gh20_ _ (tg_z t16_ (by decide) z19_)) e15_
  have e23_ := kg_fr (gh20_ _ (tg_z qh13_a (by decide) z19_)) eh13_0
  have e24_ := kg_fr (gh20_ _ (tg_z qh13_a (by decide) z19_)) eh13_1
  refine k_new (n := 5) Wh20_ (by omega) rfl (fun h25_ sh25_ uh25_ eh25_ gh25_ Wh25_ zh25_ => ?_)
  have e26_ := kg_fr (gh25_ _ (Nat.ne_of_lt (tG_lt Wh20_ t16_ (by decide)))) e21_
  have e27_ := kg_fr (gh25_ _ (Nat.ne_of_lt (tG_lt Wh20_ t16_ (by decide)))) e22_
  have e28_ := kg_fr (gh25_ _ (Nat.ne_of_lt (tG_lt Wh20_ qh13_a (by decide)))) e23_
  have e29_ := kg_fr (gh25_ _ (Nat.ne_of_lt (tG_lt Wh20_ qh13_a (by decide)))) e24_
  have e30_ := (gh25_ _ (by omega)).trans eh20_'
  refine k_cA (by omega) (by omega) (by first | decide | exact fun _ q => q) (kX9_initS Wh25_ (by omega) zh25_ eh25_ ) (fun _ h31_ Gh31_ fh31_ qh31_ => ?_)
  have Wh31_ := fh31_.1
  have sh31_ := fh31_.2.1
  have th31_ := fh31_.2.2.1
  have uh31_ := fh31_.2.2.2.1
  obtain ⟨qh31_a, th9, io9, tb9, tth9, ttb9, etr9, eth9, etb9⟩ := qh31_
  have e32_ := kg_fr (fh31_.2.2.2.2.2 _ (tG_lt Wh25_ t16_ (by decide)) (tg_z t16_ (by decide) zh25_) (by rw [t16_.1, t16_.2]; first | decide | simp)) e26_
  have e33_ := kg_fr (fh31_.2.2.2.2.2 _ (tG_lt Wh25_ t16_ (by decide)) (tg_z t16_ (by decide) zh25_) (by rw [t16_.1, t16_.2]; first | decide | simp)) e27_
  have e34_ := kg_fr (fh31_.2.2.2.2.2 _ (tG_lt Wh25_ qh13_a (by decide)) (tg_z qh13_a (by decide) zh25_) (by rw [qh13_a.1, qh13_a.2]; first | decide | simp)) e28_
  have e35_ := kg_fr (fh31_.2.2.2.2.2 _ (tG_lt Wh25_ qh13_a (by decide)) (tg_z qh13_a (by decide) zh25_) (by rw [qh13_a.1, qh13_a.2]; first | decide | simp)) e29_
  have t36_ := tg_up fh31_ Wh25_ t16_ (by decide) (tg_z t16_ (by decide) zh25_)
  have t37_ := tg_up fh31_ Wh25_ t17_ (by decide) (tg_z t17_ (by decide) zh25_)
  have := tg_upl fh31_ Wh25_ t17_ (by decide) (tg_z t17_ (by decide) zh25_)
  have t38_ := tg_up fh31_ Wh25_ qh13_a (by decide) (tg_z qh13_a (by decide) zh25_)
  have t39_ := tg_up fh31_ Wh25_ th13_i (by decide) (tg_z th13_i (by decide) zh25_)
  have := tg_upl fh31_ Wh25_ th13_i (by decide) (tg_z th13_i (by decide) zh25_)
  have e40_ := (fh31_.2.2.2.2.2 _ (by omega) (by omega) (by rw [z19_]; simp)).trans e30_
  have z41_ : (Gh31_ a0).1 = 0 := by rw [fh31_.2.2.2.2.1 _ (by omega) (by omega)]; exact z19_
  refine k_raw Wh31_ z41_ (Or.inl rfl) e40_ (by first | decide | simp) (fun h42_ sh42_ uh42_ eh42_ gh42_ Wh42_ => ?_)
  have eh42_' : h42_.2.2 a0 = some (.inr (11, [sm_v (vR (some h.1)), sm_v (vR (some h6_.1)), sm_v (vR (some h20_.1)), .null, .null, .null, .null, .null, .null, .null, .null, .null, .null, .null, .int 0, .int 0, .long 0])) := eh42_
  have e43_ := kg_fr (gh42_ _ (tg_z t36_ (by decide) z41_)) e32_
  have e44_ := kg_fr (gh42_ _ (tg_z t36_ (by decide) z41_)) e33_
  have e45_ := kg_fr (gh42_ _ (tg_z t38_ (by decide) z41_)) e34_
  have e46_ := kg_fr (gh42_ _ (tg_z t38_ (by decide) z41_)) e35_
  have e47_ := kce_fr (gh42_ _ (tg_z qh31_a (by decide) z41_)) etr9
  have e48_ := kce_fr (gh42_ _ (tg_z tth9 (by decide) z41_)) eth9
  have e49_ := kce_fr (gh42_ _ (tg_z ttb9 (by decide) z41_)) etb9
  rw [if_neg (by decide)]
  try rw [show ((8 : Int32)).toNatClampNeg = 8 from rfl]
  refine k_nwaS (ρ := 0) Wh42_ (by omega) (by decide) (by decide) (dk_R 6 (by decide)) (fun h50_ Gh50_ sh50_ uh50_ gh50_ kh50_ Wh50_ th50_ lh50_ ch50_ => ?_)
  have e51_ := kg_fr (gh50_ _ (Nat.ne_of_lt (tG_lt Wh42_ t36_ (by decide)))) e43_
  have e52_ := kg_fr (gh50_ _ (Nat.ne_of_lt (tG_lt Wh42_ t36_ (by decide)))) e44_
  have e53_ := kg_fr (gh50_ _ (Nat.ne_of_lt (tG_lt Wh42_ t38_ (by decide)))) e45_
  have e54_ := kg_fr (gh50_ _ (Nat.ne_of_lt (tG_lt Wh42_ t38_ (by decide)))) e46_
  have e55_ := kce_fr (gh50_ _ (Nat.ne_of_lt (tG_lt Wh42_ qh31_a (by decide)))) e47_
  have e56_ := kce_fr (gh50_ _ (Nat.ne_of_lt (tG_lt Wh42_ tth9 (by decide)))) e48_
  have e57_ := kce_fr (gh50_ _ (Nat.ne_of_lt (tG_lt Wh42_ ttb9 (by decide)))) e49_
  have t58_ := tg_nw kh50_ (Nat.ne_of_lt (tG_lt Wh42_ t36_ (by decide))) t36_
  have t59_ := tg_nw kh50_ (Nat.ne_of_lt (tG_lt Wh42_ t37_ (by decide))) t37_
  have := congrArg (fun z => z.2.1) (kh50_ _ (Nat.ne_of_lt (tG_lt Wh42_ t37_ (by decide))))
  try simp only at this
  have t60_ := tg_nw kh50_ (Nat.ne_of_lt (tG_lt Wh42_ t38_ (by decide))) t38_
  have t61_ := tg_nw kh50_ (Nat.ne_of_lt (tG_lt Wh42_ t39_ (by decide))) t39_
  have := congrArg (fun z => z.2.1) (kh50_ _ (Nat.ne_of_lt (tG_lt Wh42_ t39_ (by decide))))
  try simp only at this
  have t62_ := tg_nw kh50_ (Nat.ne_of_lt (tG_lt Wh42_ qh31_a (by decide))) qh31_a
  have t63_ := tg_nw kh50_ (Nat.ne_of_lt (tG_lt Wh42_ tth9 (by decide))) tth9
  have := congrArg (fun z => z.2.1) (kh50_ _ (Nat.ne_of_lt (tG_lt Wh42_ tth9 (by decide))))
  try simp only at this
  have t64_ := tg_nw kh50_ (Nat.ne_of_lt (tG_lt Wh42_ ttb9 (by decide))) ttb9
  have := congrArg (fun z => z.2.1) (kh50_ _ (Nat.ne_of_lt (tG_lt Wh42_ ttb9 (by decide))))
  try simp only at this
  have e65_ := (gh50_ _ (by omega)).trans eh42_'
  have z66_ : (Gh50_ a0).1 = 0 := by rw [kh50_ _ (by omega)]; exact z41_
  refine k_raw Wh50_ z66_ (Or.inl rfl) e65_ (by first | decide | simp) (fun h67_ sh67_ uh67_ eh67_ gh67_ Wh67_ => ?_)
  have eh67_' : h67_.2.2 a0 = some (.inr (11, [sm_v (vR (some h.1)), sm_v (vR (some h6_.1)), sm_v (vR (some h20_.1)), sm_v (vR (some h42_.1)), .null, .null, .null, .null, .null, .null, .null, .null, .null, .null, .int 0, .int 0, .long 0])) := eh67_
  have e68_ := kg_fr (gh67_ _ (tg_z t58_ (by decide) z66_)) e51_
  have e69_ := kg_fr (gh67_ _ (tg_z t58_ (by decide) z66_)) e52_
  have e70_ := kg_fr (gh67_ _ (tg_z t60_ (by decide) z66_)) e53_
  have e71_ := kg_fr (gh67_ _ (tg_z t60_ (by decide) z66_)) e54_
  have e72_ := kce_fr (gh67_ _ (tg_z t62_ (by decide) z66_)) e55_
  have e73_ := kce_fr (gh67_ _ (tg_z t63_ (by decide) z66_)) e56_
  have e74_ := kce_fr (gh67_ _ (tg_z t64_ (by decide) z66_)) e57_
  have e75_ := kce_fr (gh67_ _ (tg_z th50_ (by decide) z66_)) ch50_
  refine k_new (n := 9) Wh67_ (by omega) rfl (fun h76_ sh76_ uh76_ eh76_ gh76_ Wh76_ zh76_ => ?_)
  have e77_ := kg_fr (gh76_ _ (Nat.ne_of_lt (tG_lt Wh67_ t58_ (by decide)))) e68_
  have e78_ := kg_fr (gh76_ _ (Nat.ne_of_lt (tG_lt Wh67_ t58_ (by decide)))) e69_
  have e79_ := kg_fr (gh76_ _ (Nat.ne_of_lt (tG_lt Wh67_ t60_ (by decide)))) e70_
  have e80_ := kg_fr (gh76_ _ (Nat.ne_of_lt (tG_lt Wh67_ t60_ (by decide)))) e71_
  have e81_ := kce_fr (gh76_ _ (Nat.ne_of_lt (tG_lt Wh67_ t62_ (by decide)))) e72_
  have e82_ := kce_fr (gh76_ _ (Nat.ne_of_lt (tG_lt Wh67_ t63_ (by decide)))) e73_
  have e83_ := kce_fr (gh76_ _ (Nat.ne_of_lt (tG_lt Wh67_ t64_ (by decide)))) e74_
  have e84_ := kce_fr (gh76_ _ (Nat.ne_of_lt (tG_lt Wh67_ th50_ (by decide)))) e75_
  have e85_ := (gh76_ _ (by omega)).trans eh67_'
  refine k_cA (by omega) (by omega) (by first | decide | exact fun _ q => q) (kX3_init Wh76_ (by omega) zh76_ eh76_ ) (fun v87_ h86_ Gh86_ fh86_ qh86_ => ?_)
  have Wh86_ := fh86_.1
  have sh86_ := fh86_.2.1
  have th86_ := fh86_.2.2.1
  have uh86_ := fh86_.2.2.2.1
  have e88_ := kg_fr (fh86_.2.2.2.2.2 _ (tG_lt Wh76_ t58_ (by decide)) (tg_z t58_ (by decide) zh76_) (by rw [t58_.1, t58_.2]; first | decide | simp)) e77_
  have e89_ := kg_fr (fh86_.2.2.2.2.2 _ (tG_lt Wh76_ t58_ (by decide)) (tg_z t58_ (by decide) zh76_) (by rw [t58_.1, t58_.2]; first | decide | simp)) e78_
  have e90_ := kg_fr (fh86_.2.2.2.2.2 _ (tG_lt Wh76_ t60_ (by decide)) (tg_z t60_ (by decide) zh76_) (by rw [t60_.1, t60_.2]; first | decide | simp)) e79_
  have e91_ := kg_fr (fh86_.2.2.2.2.2 _ (tG_lt Wh76_ t60_ (by decide)) (tg_z t60_ (by decide) zh76_) (by rw [t60_.1, t60_.2]; first | decide | simp)) e80_
  have e92_ := kce_fr (fh86_.2.2.2.2.2 _ (tG_lt Wh76_ t62_ (by decide)) (tg_z t62_ (by decide) zh76_) (by rw [t62_.1, t62_.2]; first | decide | simp)) e81_
  have e93_ := kce_fr (fh86_.2.2.2.2.2 _ (tG_lt Wh76_ t63_ (by decide)) (tg_z t63_ (by decide) zh76_) (by rw [t63_.1, t63_.2]; first | decide | simp)) e82_
  have e94_ := kce_fr (fh86_.2.2.2.2.2 _ (tG_lt Wh76_ t64_ (by decide)) (tg_z t64_ (by decide) zh76_) (by rw [t64_.1, t64_.2]; first | decide | simp)) e83_
  have e95_ := kce_fr (fh86_.2.2.2.2.2 _ (tG_lt Wh76_ th50_ (by decide)) (tg_z th50_ (by decide) zh76_) (by rw [th50_.1, th50_.2]; first | decide | simp)) e84_
  have t96_ := tg_up fh86_ Wh76_ t58_ (by decide) (tg_z t58_ (by decide) zh76_)
  have t97_ := tg_up fh86_ Wh76_ t59_ (by decide) (tg_z t59_ (by decide) zh76_)
  have := tg_upl fh86_ Wh76_ t59_ (by decide) (tg_z t59_ (by decide) zh76_)
  have t98_ := tg_up fh86_ Wh76_ t60_ (by decide) (tg_z t60_ (by decide) zh76_)
  have t99_ := tg_up fh86_ Wh76_ t61_ (by decide) (tg_z t61_ (by decide) zh76_)
  have := tg_upl fh86_ Wh76_ t61_ (by decide) (tg_z t61_ (by decide) zh76_)
  have t100_ := tg_up fh86_ Wh76_ t62_ (by decide) (tg_z t62_ (by decide) zh76_)
  have t101_ := tg_up fh86_ Wh76_ t63_ (by decide) (tg_z t63_ (by decide) zh76_)
  have := tg_upl fh86_ Wh76_ t63_ (by decide) (tg_z t63_ (by decide) zh76_)
  have t102_ := tg_up fh86_ Wh76_ t64_ (by decide) (tg_z t64_ (by decide) zh76_)
  have := tg_upl fh86_ Wh76_ t64_ (by decide) (tg_z t64_ (by decide) zh76_)
  have t103_ := tg_up fh86_ Wh76_ th50_ (by decide) (tg_z th50_ (by decide) zh76_)
  have := tg_upl fh86_ Wh76_ th50_ (by decide) (tg_z th50_ (by decide) zh76_)
  have e104_ := (fh86_.2.2.2.2.2 _ (by omega) (by omega) (by rw [z66_]; simp)).trans e85_
  have z105_ : (Gh86_ a0).1 = 0 := by rw [fh86_.2.2.2.2.1 _ (by omega) (by omega)]; exact z66_
  refine k_raw Wh86_ z105_ (Or.inl rfl) e104_ (by first | decide | simp) (fun h106_ sh106_ uh106_ eh106_ gh106_ Wh106_ => ?_)
  have eh106_' : h106_.2.2 a0 = some (.inr (11, [sm_v (vR (some h.1)), sm_v (vR (some h6_.1)), sm_v (vR (some h20_.1)), sm_v (vR (some h42_.1)), sm_v (vR (some h67_.1)), .null, .null, .null, .null, .null, .null, .null, .null, .null, .int 0, .int 0, .long 0])) := eh106_
  have e107_ := kg_fr (gh106_ _ (tg_z t96_ (by decide) z105_)) e88_
  have e108_ := kg_fr (gh106_ _ (tg_z t96_ (by decide) z105_)) e89_
  have e109_ := kg_fr (gh106_ _ (tg_z t98_ (by decide) z105_)) e90_
  have e110_ := kg_fr (gh106_ _ (tg_z t98_ (by decide) z105_)) e91_
  have e111_ := kce_fr (gh106_ _ (tg_z t100_ (by decide) z105_)) e92_
  have e112_ := kce_fr (gh106_ _ (tg_z t101_ (by decide) z105_)) e93_
  have e113_ := kce_fr (gh106_ _ (tg_z t102_ (by decide) z105_)) e94_
  have e114_ := kce_fr (gh106_ _ (tg_z t103_ (by decide) z105_)) e95_
  refine k_new (n := 3) Wh106_ (by omega) rfl (fun h115_ sh115_ uh115_ eh115_ gh115_ Wh115_ zh115_ => ?_)
  have e116_ := kg_fr (gh115_ _ (Nat.ne_of_lt (tG_lt Wh106_ t96_ (by decide)))) e107_
  have e117_ := kg_fr (gh115_ _ (Nat.ne_of_lt (tG_lt Wh106_ t96_ (by decide)))) e108_
  have e118_ := kg_fr (gh115_ _ (Nat.ne_of_lt (tG_lt Wh106_ t98_ (by decide)))) e109_
  have e119_ := kg_fr (gh115_ _ (Nat.ne_of_lt (tG_lt Wh106_ t98_ (by decide)))) e110_
  have e120_ := kce_fr (gh115_ _ (Nat.ne_of_lt (tG_lt Wh106_ t100_ (by decide)))) e111_
  have e121_ := kce_fr (gh115_ _ (Nat.ne_of_lt (tG_lt Wh106_ t101_ (by decide)))) e112_
  have e122_ := kce_fr (gh115_ _ (Nat.ne_of_lt (tG_lt Wh106_ t102_ (by decide)))) e113_
  have e123_ := kce_fr (gh115_ _ (Nat.ne_of_lt (tG_lt Wh106_ t103_ (by decide)))) e114_
  have e124_ := (gh115_ _ (by omega)).trans eh106_'
  refine k_kR (x := some h.1) (by rw [pu_get e124_]; rfl) ?_
  refine k_cA (by omega) (by omega) (by first | decide | exact fun _ q => q) (kX5_initS Wh115_ (by omega) zh115_ eh115_ t96_) (fun _ h125_ Gh125_ fh125_ qh125_ => ?_)
  have Wh125_ := fh125_.1
  have sh125_ := fh125_.2.1
  have th125_ := fh125_.2.2.1
  have uh125_ := fh125_.2.2.2.1
  obtain ⟨qh125_a, erd5⟩ := qh125_
  have e126_ := kg_fr (fh125_.2.2.2.2.2 _ (tG_lt Wh115_ t96_ (by decide)) (tg_z t96_ (by decide) zh115_) (by rw [t96_.1, t96_.2]; first | decide | simp)) e116_
  have e127_ := kg_fr (fh125_.2.2.2.2.2 _ (tG_lt Wh115_ t96_ (by decide)) (tg_z t96_ (by decide) zh115_) (by rw [t96_.1, t96_.2]; first | decide | simp)) e117_
  have e128_ := kg_fr (fh125_.2.2.2.2.2 _ (tG_lt Wh115_ t98_ (by decide)) (tg_z t98_ (by decide) zh115_) (by rw [t98_.1, t98_.2]; first | decide | simp)) e118_
  have e129_ := kg_fr (fh125_.2.2.2.2.2 _ (tG_lt Wh115_ t98_ (by decide)) (tg_z t98_ (by decide) zh115_) (by rw [t98_.1, t98_.2]; first | decide | simp)) e119_
  have e130_ := kce_fr (fh125_.2.2.2.2.2 _ (tG_lt Wh115_ t100_ (by decide)) (tg_z t100_ (by decide) zh115_) (by rw [t100_.1, t100_.2]; first | decide | simp)) e120_
  have e131_ := kce_fr (fh125_.2.2.2.2.2 _ (tG_lt Wh115_ t101_ (by decide)) (tg_z t101_ (by decide) zh115_) (by rw [t101_.1, t101_.2]; first | decide | simp)) e121_
  have e132_ := kce_fr (fh125_.2.2.2.2.2 _ (tG_lt Wh115_ t102_ (by decide)) (tg_z t102_ (by decide) zh115_) (by rw [t102_.1, t102_.2]; first | decide | simp)) e122_
  have e133_ := kce_fr (fh125_.2.2.2.2.2 _ (tG_lt Wh115_ t103_ (by decide)) (tg_z t103_ (by decide) zh115_) (by rw [t103_.1, t103_.2]; first | decide | simp)) e123_
  have t134_ := tg_up fh125_ Wh115_ t96_ (by decide) (tg_z t96_ (by decide) zh115_)
  have t135_ := tg_up fh125_ Wh115_ t97_ (by decide) (tg_z t97_ (by decide) zh115_)
  have := tg_upl fh125_ Wh115_ t97_ (by decide) (tg_z t97_ (by decide) zh115_)
  have t136_ := tg_up fh125_ Wh115_ t98_ (by decide) (tg_z t98_ (by decide) zh115_)
  have t137_ := tg_up fh125_ Wh115_ t99_ (by decide) (tg_z t99_ (by decide) zh115_)
  have := tg_upl fh125_ Wh115_ t99_ (by decide) (tg_z t99_ (by decide) zh115_)
  have t138_ := tg_up fh125_ Wh115_ t100_ (by decide) (tg_z t100_ (by decide) zh115_)
  have t139_ := tg_up fh125_ Wh115_ t101_ (by decide) (tg_z t101_ (by decide) zh115_)
  have := tg_upl fh125_ Wh115_ t101_ (by decide) (tg_z t101_ (by decide) zh115_)
  have t140_ := tg_up fh125_ Wh115_ t102_ (by decide) (tg_z t102_ (by decide) zh115_)
  have := tg_upl fh125_ Wh115_ t102_ (by decide) (tg_z t102_ (by decide) zh115_)
  have t141_ := tg_up fh125_ Wh115_ t103_ (by decide) (tg_z t103_ (by decide) zh115_)
  have := tg_upl fh125_ Wh115_ t103_ (by decide) (tg_z t103_ (by decide) zh115_)
  have t142_ := tg_up fh125_ Wh115_ qh86_ (by decide) (tg_z qh86_ (by decide) zh115_)
  have e143_ := (fh125_.2.2.2.2.2 _ (by omega) (by omega) (by rw [z105_]; simp)).trans e124_
  have z144_ : (Gh125_ a0).1 = 0 := by rw [fh125_.2.2.2.2.1 _ (by omega) (by omega)]; exact z105_
  refine k_raw Wh125_ z144_ (Or.inl rfl) e143_ (by first | decide | simp) (fun h145_ sh145_ uh145_ eh145_ gh145_ Wh145_ => ?_)
  have eh145_' : h145_.2.2 a0 = some (.inr (11, [sm_v (vR (some h.1)), sm_v (vR (some h6_.1)), sm_v (vR (some h20_.1)), sm_v (vR (some h42_.1)), sm_v (vR (some h67_.1)), sm_v (vR (some h106_.1)), .null, .null, .null, .null, .null, .null, .null, .null, .int 0, .int 0, .long 0])) := eh145_
  have e146_ := kg_fr (gh145_ _ (tg_z t134_ (by decide) z144_)) e126_
  have e147_ := kg_fr (gh145_ _ (tg_z t134_ (by decide) z144_)) e127_
  have e148_ := kg_fr (gh145_ _ (tg_z t136_ (by decide) z144_)) e128_
  have e149_ := kg_fr (gh145_ _ (tg_z t136_ (by decide) z144_)) e129_
  have e150_ := kce_fr (gh145_ _ (tg_z t138_ (by decide) z144_)) e130_
  have e151_ := kce_fr (gh145_ _ (tg_z t139_ (by decide) z144_)) e131_
  have e152_ := kce_fr (gh145_ _ (tg_z t140_ (by decide) z144_)) e132_
  have e153_ := kce_fr (gh145_ _ (tg_z t141_ (by decide) z144_)) e133_
  have e154_ := kg_fr (gh145_ _ (tg_z qh125_a (by decide) z144_)) erd5
  refine k_new (n := 2) Wh145_ (by omega) rfl (fun h155_ sh155_ uh155_ eh155_ gh155_ Wh155_ zh155_ => ?_)
  have e156_ := kg_fr (gh155_ _ (Nat.ne_of_lt (tG_lt Wh145_ t134_ (by decide)))) e146_
  have e157_ := kg_fr (gh155_ _ (Nat.ne_of_lt (tG_lt Wh145_ t134_ (by decide)))) e147_
  have e158_ := kg_fr (gh155_ _ (Nat.ne_of_lt (tG_lt Wh145_ t136_ (by decide)))) e148_
  have e159_ := kg_fr (gh155_ _ (Nat.ne_of_lt (tG_lt Wh145_ t136_ (by decide)))) e149_
  have e160_ := kce_fr (gh155_ _ (Nat.ne_of_lt (tG_lt Wh145_ t138_ (by decide)))) e150_
  have e161_ := kce_fr (gh155_ _ (Nat.ne_of_lt (tG_lt Wh145_ t139_ (by decide)))) e151_
  have e162_ := kce_fr (gh155_ _ (Nat.ne_of_lt (tG_lt Wh145_ t140_ (by decide)))) e152_
  have e163_ := kce_fr (gh155_ _ (Nat.ne_of_lt (tG_lt Wh145_ t141_ (by decide)))) e153_
  have e164_ := kg_fr (gh155_ _ (Nat.ne_of_lt (tG_lt Wh145_ qh125_a (by decide)))) e154_
  have e165_ := (gh155_ _ (by omega)).trans eh145_'
  refine k_kR (x := some h20_.1) (by rw [pu_get e165_]; rfl) ?_
  refine k_kR (x := some h67_.1) (by rw [pu_get e165_]; rfl) ?_
  refine k_cA (by omega) (by omega) (by first | decide | exact fun _ q => q) (kX1_init Wh155_ (by omega) zh155_ eh155_ t138_ t142_) (fun v167_ h166_ Gh166_ fh166_ qh166_ => ?_)
  have Wh166_ := fh166_.1
  have sh166_ := fh166_.2.1
  have th166_ := fh166_.2.2.1
  have uh166_ := fh166_.2.2.2.1
  have e168_ := kg_fr (fh166_.2.2.2.2.2 _ (tG_lt Wh155_ t134_ (by decide)) (tg_z t134_ (by decide) zh155_) (by rw [t134_.1, t134_.2]; first | decide | simp)) e156_
  have e169_ := kg_fr (fh166_.2.2.2.2.2 _ (tG_lt Wh155_ t134_ (by decide)) (tg_z t134_ (by decide) zh155_) (by rw [t134_.1, t134_.2]; first | decide | simp)) e157_
  have e170_ := kg_fr (fh166_.2.2.2.2.2 _ (tG_lt Wh155_ t136_ (by decide)) (tg_z t136_ (by decide) zh155_) (by rw [t136_.1, t136_.2]; first | decide | simp)) e158_
  have e171_ := kg_fr (fh166_.2.2.2.2.2 _ (tG_lt Wh155_ t136_ (by decide)) (tg_z t136_ (by decide) zh155_) (by rw [t136_.1, t136_.2]; first | decide | simp)) e159_
  have e172_ := kce_fr (fh166_.2.2.2.2.2 _ (tG_lt Wh155_ t138_ (by decide)) (tg_z t138_ (by decide) zh155_) (by rw [t138_.1, t138_.2]; first | decide | simp)) e160_
  have e173_ := kce_fr (fh166_.2.2.2.2.2 _ (tG_lt Wh155_ t139_ (by decide)) (tg_z t139_ (by decide) zh155_) (by rw [t139_.1, t139_.2]; first | decide | simp)) e161_
  have e174_ := kce_fr (fh166_.2.2.2.2.2 _ (tG_lt Wh155_ t140_ (by decide)) (tg_z t140_ (by decide) zh155_) (by rw [t140_.1, t140_.2]; first | decide | simp)) e162_
  have e175_ := kce_fr (fh166_.2.2.2.2.2 _ (tG_lt Wh155_ t141_ (by decide)) (tg_z t141_ (by decide) zh155_) (by rw [t141_.1, t141_.2]; first | decide | simp)) e163_
  have e176_ := kg_fr (fh166_.2.2.2.2.2 _ (tG_lt Wh155_ qh125_a (by decide)) (tg_z qh125_a (by decide) zh155_) (by rw [qh125_a.1, qh125_a.2]; first | decide | simp)) e164_
  have t177_ := tg_up fh166_ Wh155_ t134_ (by decide) (tg_z t134_ (by decide) zh155_)
  have t178_ := tg_up fh166_ Wh155_ t135_ (by decide) (tg_z t135_ (by decide) zh155_)
  have := tg_upl fh166_ Wh155_ t135_ (by decide) (tg_z t135_ (by decide) zh155_)
  have t179_ := tg_up fh166_ Wh155_ t136_ (by decide) (tg_z t136_ (by decide) zh155_)
  have t180_ := tg_up fh166_ Wh155_ t137_ (by decide) (tg_z t137_ (by decide) zh155_)
  have := tg_upl fh166_ Wh155_ t137_ (by decide) (tg_z t137_ (by decide) zh155_)
  have t181_ := tg_up fh166_ Wh155_ t138_ (by decide) (tg_z t138_ (by decide) zh155_)
  have t182_ := tg_up fh166_ Wh155_ t139_ (by decide) (tg_z t139_ (by decide) zh155_)
  have := tg_upl fh166_ Wh155_ t139_ (by decide) (tg_z t139_ (by decide) zh155_)
  have t183_ := tg_up fh166_ Wh155_ t140_ (by decide) (tg_z t140_ (by decide) zh155_)
  have := tg_upl fh166_ Wh155_ t140_ (by decide) (tg_z t140_ (by decide) zh155_)
  have t184_ := tg_up fh166_ Wh155_ t141_ (by decide) (tg_z t141_ (by decide) zh155_)
  have := tg_upl fh166_ Wh155_ t141_ (by decide) (tg_z t141_ (by decide) zh155_)
  have t185_ := tg_up fh166_ Wh155_ t142_ (by decide) (tg_z t142_ (by decide) zh155_)
  have t186_ := tg_up fh166_ Wh155_ qh125_a (by decide) (tg_z qh125_a (by decide) zh155_)
  have e187_ := (fh166_.2.2.2.2.2 _ (by omega) (by omega) (by rw [z144_]; simp)).trans e165_
  have z188_ : (Gh166_ a0).1 = 0 := by rw [fh166_.2.2.2.2.1 _ (by omega) (by omega)]; exact z144_
  refine k_raw Wh166_ z188_ (Or.inl rfl) e187_ (by first | decide | simp) (fun h189_ sh189_ uh189_ eh189_ gh189_ Wh189_ => ?_)
  have eh189_' : h189_.2.2 a0 = some (.inr (11, [sm_v (vR (some h.1)), sm_v (vR (some h6_.1)), sm_v (vR (some h20_.1)), sm_v (vR (some h42_.1)), sm_v (vR (some h67_.1)), sm_v (vR (some h106_.1)), sm_v (vR (some h145_.1)), .null, .null, .null, .null, .null, .null, .null, .int 0, .int 0, .long 0])) := eh189_
  have e190_ := kg_fr (gh189_ _ (tg_z t177_ (by decide) z188_)) e168_
  have e191_ := kg_fr (gh189_ _ (tg_z t177_ (by decide) z188_)) e169_
  have e192_ := kg_fr (gh189_ _ (tg_z t179_ (by decide) z188_)) e170_
  have e193_ := kg_fr (gh189_ _ (tg_z t179_ (by decide) z188_)) e171_
  have e194_ := kce_fr (gh189_ _ (tg_z t181_ (by decide) z188_)) e172_
  have e195_ := kce_fr (gh189_ _ (tg_z t182_ (by decide) z188_)) e173_
  have e196_ := kce_fr (gh189_ _ (tg_z t183_ (by decide) z188_)) e174_
  have e197_ := kce_fr (gh189_ _ (tg_z t184_ (by decide) z188_)) e175_
  have e198_ := kg_fr (gh189_ _ (tg_z t186_ (by decide) z188_)) e176_
  refine k_new (n := 6) Wh189_ (by omega) rfl (fun h199_ sh199_ uh199_ eh199_ gh199_ Wh199_ zh199_ => ?_)
  have e200_ := kg_fr (gh199_ _ (Nat.ne_of_lt (tG_lt Wh189_ t177_ (by decide)))) e190_
  have e201_ := kg_fr (gh199_ _ (Nat.ne_of_lt (tG_lt Wh189_ t177_ (by decide)))) e191_
  have e202_ := kg_fr (gh199_ _ (Nat.ne_of_lt (tG_lt Wh189_ t179_ (by decide)))) e192_
  have e203_ := kg_fr (gh199_ _ (Nat.ne_of_lt (tG_lt Wh189_ t179_ (by decide)))) e193_
  have e204_ := kce_fr (gh199_ _ (Nat.ne_of_lt (tG_lt Wh189_ t181_ (by decide)))) e194_
  have e205_ := kce_fr (gh199_ _ (Nat.ne_of_lt (tG_lt Wh189_ t182_ (by decide)))) e195_
  have e206_ := kce_fr (gh199_ _ (Nat.ne_of_lt (tG_lt Wh189_ t183_ (by decide)))) e196_
  have e207_ := kce_fr (gh199_ _ (Nat.ne_of_lt (tG_lt Wh189_ t184_ (by decide)))) e197_
  have e208_ := kg_fr (gh199_ _ (Nat.ne_of_lt (tG_lt Wh189_ t186_ (by decide)))) e198_
  have e209_ := (gh199_ _ (by omega)).trans eh189_'
  refine k_cA (by omega) (by omega) (by first | decide | exact fun _ q => q) (kX6_initS Wh199_ (by omega) zh199_ eh199_ ) (fun _ h210_ Gh210_ fh210_ qh210_ => ?_)
  have Wh210_ := fh210_.1
  have sh210_ := fh210_.2.1
  have th210_ := fh210_.2.2.1
  have uh210_ := fh210_.2.2.2.1
  obtain ⟨qh210_a, oc6, toc6, erp6, eoc6⟩ := qh210_
  have e211_ := kg_fr (fh210_.2.2.2.2.2 _ (tG_lt Wh199_ t177_ (by decide)) (tg_z t177_ (by decide) zh199_) (by rw [t177_.1, t177_.2]; first | decide | simp)) e200_
  have e212_ := kg_fr (fh210_.2.2.2.2.2 _ (tG_lt Wh199_ t177_ (by decide)) (tg_z t177_ (by decide) zh199_) (by rw [t177_.1, t177_.2]; first | decide | simp)) e201_
  have e213_ := kg_fr (fh210_.2.2.2.2.2 _ (tG_lt Wh199_ t179_ (by decide)) (tg_z t179_ (by decide) zh199_) (by rw [t179_.1, t179_.2]; first | decide | simp)) e202_
  have e214_ := kg_fr (fh210_.2.2.2.2.2 _ (tG_lt Wh199_ t179_ (by decide)) (tg_z t179_ (by decide) zh199_) (by rw [t179_.1, t179_.2]; first | decide | simp)) e203_
  have e215_ := kce_fr (fh210_.2.2.2.2.2 _ (tG_lt Wh199_ t181_ (by decide)) (tg_z t181_ (by decide) zh199_) (by rw [t181_.1, t181_.2]; first | decide | simp)) e204_
  have e216_ := kce_fr (fh210_.2.2.2.2.2 _ (tG_lt Wh199_ t182_ (by decide)) (tg_z t182_ (by decide) zh199_) (by rw [t182_.1, t182_.2]; first | decide | simp)) e205_
  have e217_ := kce_fr (fh210_.2.2.2.2.2 _ (tG_lt Wh199_ t183_ (by decide)) (tg_z t183_ (by decide) zh199_) (by rw [t183_.1, t183_.2]; first | decide | simp)) e206_
  have e218_ := kce_fr (fh210_.2.2.2.2.2 _ (tG_lt Wh199_ t184_ (by decide)) (tg_z t184_ (by decide) zh199_) (by rw [t184_.1, t184_.2]; first | decide | simp)) e207_
  have e219_ := kg_fr (fh210_.2.2.2.2.2 _ (tG_lt Wh199_ t186_ (by decide)) (tg_z t186_ (by decide) zh199_) (by rw [t186_.1, t186_.2]; first | decide | simp)) e208_
  have t220_ := tg_up fh210_ Wh199_ t177_ (by decide) (tg_z t177_ (by decide) zh199_)
  have t221_ := tg_up fh210_ Wh199_ t178_ (by decide) (tg_z t178_ (by decide) zh199_)
  have := tg_upl fh210_ Wh199_ t178_ (by decide) (tg_z t178_ (by decide) zh199_)
  have t222_ := tg_up fh210_ Wh199_ t179_ (by decide) (tg_z t179_ (by decide) zh199_)
  have t223_ := tg_up fh210_ Wh199_ t180_ (by decide) (tg_z t180_ (by decide) zh199_)
  have := tg_upl fh210_ Wh199_ t180_ (by decide) (tg_z t180_ (by decide) zh199_)
  have t224_ := tg_up fh210_ Wh199_ t181_ (by decide) (tg_z t181_ (by decide) zh199_)
  have t225_ := tg_up fh210_ Wh199_ t182_ (by decide) (tg_z t182_ (by decide) zh199_)
  have := tg_upl fh210_ Wh199_ t182_ (by decide) (tg_z t182_ (by decide) zh199_)
  have t226_ := tg_up fh210_ Wh199_ t183_ (by decide) (tg_z t183_ (by decide) zh199_)
  have := tg_upl fh210_ Wh199_ t183_ (by decide) (tg_z t183_ (by decide) zh199_)
  have t227_ := tg_up fh210_ Wh199_ t184_ (by decide) (tg_z t184_ (by decide) zh199_)
  have := tg_upl fh210_ Wh199_ t184_ (by decide) (tg_z t184_ (by decide) zh199_)
  have t228_ := tg_up fh210_ Wh199_ t185_ (by decide) (tg_z t185_ (by decide) zh199_)
  have t229_ := tg_up fh210_ Wh199_ t186_ (by decide) (tg_z t186_ (by decide) zh199_)
  have t230_ := tg_up fh210_ Wh199_ qh166_ (by decide) (tg_z qh166_ (by decide) zh199_)
  have e231_ := (fh210_.2.2.2.2.2 _ (by omega) (by omega) (by rw [z188_]; simp)).trans e209_
  have z232_ : (Gh210_ a0).1 = 0 := by rw [fh210_.2.2.2.2.1 _ (by omega) (by omega)]; exact z188_
  refine k_raw Wh210_ z232_ (Or.inl rfl) e231_ (by first | decide | simp) (fun h233_ sh233_ uh233_ eh233_ gh233_ Wh233_ => ?_)
  have eh233_' : h233_.2.2 a0 = some (.inr (11, [sm_v (vR (some h.1)), sm_v (vR (some h6_.1)), sm_v (vR (some h20_.1)), sm_v (vR (some h42_.1)), sm_v (vR (some h67_.1)), sm_v (vR (some h106_.1)), sm_v (vR (some h145_.1)), sm_v (vR (some h189_.1)), .null, .null, .null, .null, .null, .null, .int 0, .int 0, .long 0])) := eh233_
  have e234_ := kg_fr (gh233_ _ (tg_z t220_ (by decide) z232_)) e211_
  have e235_ := kg_fr (gh233_ _ (tg_z t220_ (by decide) z232_)) e212_
  have e236_ := kg_fr (gh233_ _ (tg_z t222_ (by decide) z232_)) e213_
  have e237_ := kg_fr (gh233_ _ (tg_z t222_ (by decide) z232_)) e214_
  have e238_ := kce_fr (gh233_ _ (tg_z t224_ (by decide) z232_)) e215_
  have e239_ := kce_fr (gh233_ _ (tg_z t225_ (by decide) z232_)) e216_
  have e240_ := kce_fr (gh233_ _ (tg_z t226_ (by decide) z232_)) e217_
  have e241_ := kce_fr (gh233_ _ (tg_z t227_ (by decide) z232_)) e218_
  have e242_ := kg_fr (gh233_ _ (tg_z t229_ (by decide) z232_)) e219_
  have e243_ := kg_fr (gh233_ _ (tg_z qh210_a (by decide) z232_)) erp6
  have e244_ := kg_fr (gh233_ _ (tg_z toc6 (by decide) z232_)) eoc6
  rw [if_neg (by decide)]
  try rw [show ((8 : Int32)).toNatClampNeg = 8 from rfl]
  refine k_nwaS (ρ := 0) Wh233_ (by omega) (by decide) (by decide) dk_I (fun h245_ Gh245_ sh245_ uh245_ gh245_ kh245_ Wh245_ th245_ lh245_ ch245_ => ?_)
  have e246_ := kg_fr (gh245_ _ (Nat.ne_of_lt (tG_lt Wh233_ t220_ (by decide)))) e234_
  have e247_ := kg_fr (gh245_ _ (Nat.ne_of_lt (tG_lt Wh233_ t220_ (by decide)))) e235_
  have e248_ := kg_fr (gh245_ _ (Nat.ne_of_lt (tG_lt Wh233_ t222_ (by decide)))) e236_
  have e249_ := kg_fr (gh245_ _ (Nat.ne_of_lt (tG_lt Wh233_ t222_ (by decide)))) e237_
  have e250_ := kce_fr (gh245_ _ (Nat.ne_of_lt (tG_lt Wh233_ t224_ (by decide)))) e238_
  have e251_ := kce_fr (gh245_ _ (Nat.ne_of_lt (tG_lt Wh233_ t225_ (by decide)))) e239_
  have e252_ := kce_fr (gh245_ _ (Nat.ne_of_lt (tG_lt Wh233_ t226_ (by decide)))) e240_
  have e253_ := kce_fr (gh245_ _ (Nat.ne_of_lt (tG_lt Wh233_ t227_ (by decide)))) e241_
  have e254_ := kg_fr (gh245_ _ (Nat.ne_of_lt (tG_lt Wh233_ t229_ (by decide)))) e242_
  have e255_ := kg_fr (gh245_ _ (Nat.ne_of_lt (tG_lt Wh233_ qh210_a (by decide)))) e243_
  have e256_ := kg_fr (gh245_ _ (Nat.ne_of_lt (tG_lt Wh233_ toc6 (by decide)))) e244_
  have t257_ := tg_nw kh245_ (Nat.ne_of_lt (tG_lt Wh233_ t220_ (by decide))) t220_
  have t258_ := tg_nw kh245_ (Nat.ne_of_lt (tG_lt Wh233_ t221_ (by decide))) t221_
  have := congrArg (fun z => z.2.1) (kh245_ _ (Nat.ne_of_lt (tG_lt Wh233_ t221_ (by decide))))
  try simp only at this
  have t259_ := tg_nw kh245_ (Nat.ne_of_lt (tG_lt Wh233_ t222_ (by decide))) t222_
  have t260_ := tg_nw kh245_ (Nat.ne_of_lt (tG_lt Wh233_ t223_ (by decide))) t223_
  have := congrArg (fun z => z.2.1) (kh245_ _ (Nat.ne_of_lt (tG_lt Wh233_ t223_ (by decide))))
  try simp only at this
  have t261_ := tg_nw kh245_ (Nat.ne_of_lt (tG_lt Wh233_ t224_ (by decide))) t224_
  have t262_ := tg_nw kh245_ (Nat.ne_of_lt (tG_lt Wh233_ t225_ (by decide))) t225_
  have := congrArg (fun z => z.2.1) (kh245_ _ (Nat.ne_of_lt (tG_lt Wh233_ t225_ (by decide))))
  try simp only at this
  have t263_ := tg_nw kh245_ (Nat.ne_of_lt (tG_lt Wh233_ t226_ (by decide))) t226_
  have := congrArg (fun z => z.2.1) (kh245_ _ (Nat.ne_of_lt (tG_lt Wh233_ t226_ (by decide))))
  try simp only at this
  have t264_ := tg_nw kh245_ (Nat.ne_of_lt (tG_lt Wh233_ t227_ (by decide))) t227_
  have := congrArg (fun z => z.2.1) (kh245_ _ (Nat.ne_of_lt (tG_lt Wh233_ t227_ (by decide))))
  try simp only at this
  have t265_ := tg_nw kh245_ (Nat.ne_of_lt (tG_lt Wh233_ t228_ (by decide))) t228_
  have t266_ := tg_nw kh245_ (Nat.ne_of_lt (tG_lt Wh233_ t229_ (by decide))) t229_
  have t267_ := tg_nw kh245_ (Nat.ne_of_lt (tG_lt Wh233_ t230_ (by decide))) t230_
  have t268_ := tg_nw kh245_ (Nat.ne_of_lt (tG_lt Wh233_ qh210_a (by decide))) qh210_a
  have t269_ := tg_nw kh245_ (Nat.ne_of_lt (tG_lt Wh233_ toc6 (by decide))) toc6
  have e270_ := (gh245_ _ (by omega)).trans eh233_'
  have z271_ : (Gh245_ a0).1 = 0 := by rw [kh245_ _ (by omega)]; exact z232_
  refine k_raw Wh245_ z271_ (Or.inl rfl) e270_ (by first | decide | simp) (fun h272_ sh272_ uh272_ eh272_ gh272_ Wh272_ => ?_)
  have eh272_' : h272_.2.2 a0 = some (.inr (11, [sm_v (vR (some h.1)), sm_v (vR (some h6_.1)), sm_v (vR (some h20_.1)), sm_v (vR (some h42_.1)), sm_v (vR (some h67_.1)), sm_v (vR (some h106_.1)), sm_v (vR (some h145_.1)), sm_v (vR (some h189_.1)), sm_v (vR (some h233_.1)), .null, .null, .null, .null, .null, .int 0, .int 0, .long 0])) := eh272_
  have e273_ := kg_fr (gh272_ _ (tg_z t257_ (by decide) z271_)) e246_
  have e274_ := kg_fr (gh272_ _ (tg_z t257_ (by decide) z271_)) e247_
  have e275_ := kg_fr (gh272_ _ (tg_z t259_ (by decide) z271_)) e248_
  have e276_ := kg_fr (gh272_ _ (tg_z t259_ (by decide) z271_)) e249_
  have e277_ := kce_fr (gh272_ _ (tg_z t261_ (by decide) z271_)) e250_
  have e278_ := kce_fr (gh272_ _ (tg_z t262_ (by decide) z271_)) e251_
  have e279_ := kce_fr (gh272_ _ (tg_z t263_ (by decide) z271_)) e252_
  have e280_ := kce_fr (gh272_ _ (tg_z t264_ (by decide) z271_)) e253_
  have e281_ := kg_fr (gh272_ _ (tg_z t266_ (by decide) z271_)) e254_
  have e282_ := kg_fr (gh272_ _ (tg_z t268_ (by decide) z271_)) e255_
  have e283_ := kg_fr (gh272_ _ (tg_z t269_ (by decide) z271_)) e256_
  have e284_ := kce_fr (gh272_ _ (tg_z th245_ (by decide) z271_)) ch245_
  refine k_new (n := 2) Wh272_ (by omega) rfl (fun h285_ sh285_ uh285_ eh285_ gh285_ Wh285_ zh285_ => ?_)
  have e286_ := kg_fr (gh285_ _ (Nat.ne_of_lt (tG_lt Wh272_ t257_ (by decide)))) e273_
  have e287_ := kg_fr (gh285_ _ (Nat.ne_of_lt (tG_lt Wh272_ t257_ (by decide)))) e274_
  have e288_ := kg_fr (gh285_ _ (Nat.ne_of_lt (tG_lt Wh272_ t259_ (by decide)))) e275_
  have e289_ := kg_fr (gh285_ _ (Nat.ne_of_lt (tG_lt Wh272_ t259_ (by decide)))) e276_
  have e290_ := kce_fr (gh285_ _ (Nat.ne_of_lt (tG_lt Wh272_ t261_ (by decide)))) e277_
  have e291_ := kce_fr (gh285_ _ (Nat.ne_of_lt (tG_lt Wh272_ t262_ (by decide)))) e278_
  have e292_ := kce_fr (gh285_ _ (Nat.ne_of_lt (tG_lt Wh272_ t263_ (by decide)))) e279_
  have e293_ := kce_fr (gh285_ _ (Nat.ne_of_lt (tG_lt Wh272_ t264_ (by decide)))) e280_
  have e294_ := kg_fr (gh285_ _ (Nat.ne_of_lt (tG_lt Wh272_ t266_ (by decide)))) e281_
  have e295_ := kg_fr (gh285_ _ (Nat.ne_of_lt (tG_lt Wh272_ t268_ (by decide)))) e282_
  have e296_ := kg_fr (gh285_ _ (Nat.ne_of_lt (tG_lt Wh272_ t269_ (by decide)))) e283_
  have e297_ := kce_fr (gh285_ _ (Nat.ne_of_lt (tG_lt Wh272_ th245_ (by decide)))) e284_
  have e298_ := (gh285_ _ (by omega)).trans eh272_'
  refine k_cA (by omega) (by omega) (by first | decide | exact fun _ q => q) (kX0_init (ρ := 0) (R := 16) Wh285_ (by omega) zh285_ eh285_  (by first | omega | assumption | decide) (by first | omega | assumption | decide)) (fun v300_ h299_ Gh299_ fh299_ qh299_ => ?_)
  have Wh299_ := fh299_.1
  have sh299_ := fh299_.2.1
  have th299_ := fh299_.2.2.1
  have uh299_ := fh299_.2.2.2.1
  have e301_ := kg_fr (fh299_.2.2.2.2.2 _ (tG_lt Wh285_ t257_ (by decide)) (tg_z t257_ (by decide) zh285_) (by rw [t257_.1, t257_.2]; first | decide | simp)) e286_
  have e302_ := kg_fr (fh299_.2.2.2.2.2 _ (tG_lt Wh285_ t257_ (by decide)) (tg_z t257_ (by decide) zh285_) (by rw [t257_.1, t257_.2]; first | decide | simp)) e287_
  have e303_ := kg_fr (fh299_.2.2.2.2.2 _ (tG_lt Wh285_ t259_ (by decide)) (tg_z t259_ (by decide) zh285_) (by rw [t259_.1, t259_.2]; first | decide | simp)) e288_
  have e304_ := kg_fr (fh299_.2.2.2.2.2 _ (tG_lt Wh285_ t259_ (by decide)) (tg_z t259_ (by decide) zh285_) (by rw [t259_.1, t259_.2]; first | decide | simp)) e289_
  have e305_ := kce_fr (fh299_.2.2.2.2.2 _ (tG_lt Wh285_ t261_ (by decide)) (tg_z t261_ (by decide) zh285_) (by rw [t261_.1, t261_.2]; first | decide | simp)) e290_
  have e306_ := kce_fr (fh299_.2.2.2.2.2 _ (tG_lt Wh285_ t262_ (by decide)) (tg_z t262_ (by decide) zh285_) (by rw [t262_.1, t262_.2]; first | decide | simp)) e291_
  have e307_ := kce_fr (fh299_.2.2.2.2.2 _ (tG_lt Wh285_ t263_ (by decide)) (tg_z t263_ (by decide) zh285_) (by rw [t263_.1, t263_.2]; first | decide | simp)) e292_
  have e308_ := kce_fr (fh299_.2.2.2.2.2 _ (tG_lt Wh285_ t264_ (by decide)) (tg_z t264_ (by decide) zh285_) (by rw [t264_.1, t264_.2]; first | decide | simp)) e293_
  have e309_ := kg_fr (fh299_.2.2.2.2.2 _ (tG_lt Wh285_ t266_ (by decide)) (tg_z t266_ (by decide) zh285_) (by rw [t266_.1, t266_.2]; first | decide | simp)) e294_
  have e310_ := kg_fr (fh299_.2.2.2.2.2 _ (tG_lt Wh285_ t268_ (by decide)) (tg_z t268_ (by decide) zh285_) (by rw [t268_.1, t268_.2]; first | decide | simp)) e295_
  have e311_ := kg_fr (fh299_.2.2.2.2.2 _ (tG_lt Wh285_ t269_ (by decide)) (tg_z t269_ (by decide) zh285_) (by rw [t269_.1, t269_.2]; first | decide | simp)) e296_
  have e312_ := kce_fr (fh299_.2.2.2.2.2 _ (tG_lt Wh285_ th245_ (by decide)) (tg_z th245_ (by decide) zh285_) (by rw [th245_.1, th245_.2]; first | decide | simp)) e297_
  have t313_ := tg_up fh299_ Wh285_ t257_ (by decide) (tg_z t257_ (by decide) zh285_)
  have t314_ := tg_up fh299_ Wh285_ t258_ (by decide) (tg_z t258_ (by decide) zh285_)
  have := tg_upl fh299_ Wh285_ t258_ (by decide) (tg_z t258_ (by decide) zh285_)
  have t315_ := tg_up fh299_ Wh285_ t259_ (by decide) (tg_z t259_ (by decide) zh285_)
  have t316_ := tg_up fh299_ Wh285_ t260_ (by decide) (tg_z t260_ (by decide) zh285_)
  have := tg_upl fh299_ Wh285_ t260_ (by decide) (tg_z t260_ (by decide) zh285_)
  have t317_ := tg_up fh299_ Wh285_ t261_ (by decide) (tg_z t261_ (by decide) zh285_)
  have t318_ := tg_up fh299_ Wh285_ t262_ (by decide) (tg_z t262_ (by decide) zh285_)
  have := tg_upl fh299_ Wh285_ t262_ (by decide) (tg_z t262_ (by decide) zh285_)
  have t319_ := tg_up fh299_ Wh285_ t263_ (by decide) (tg_z t263_ (by decide) zh285_)
  have := tg_upl fh299_ Wh285_ t263_ (by decide) (tg_z t263_ (by decide) zh285_)
  have t320_ := tg_up fh299_ Wh285_ t264_ (by decide) (tg_z t264_ (by decide) zh285_)
  have := tg_upl fh299_ Wh285_ t264_ (by decide) (tg_z t264_ (by decide) zh285_)
  have t321_ := tg_up fh299_ Wh285_ t265_ (by decide) (tg_z t265_ (by decide) zh285_)
  have t322_ := tg_up fh299_ Wh285_ t266_ (by decide) (tg_z t266_ (by decide) zh285_)
  have t323_ := tg_up fh299_ Wh285_ t267_ (by decide) (tg_z t267_ (by decide) zh285_)
  have t324_ := tg_up fh299_ Wh285_ t268_ (by decide) (tg_z t268_ (by decide) zh285_)
  have t325_ := tg_up fh299_ Wh285_ t269_ (by decide) (tg_z t269_ (by decide) zh285_)
  have t326_ := tg_up fh299_ Wh285_ th245_ (by decide) (tg_z th245_ (by decide) zh285_)
  have := tg_upl fh299_ Wh285_ th245_ (by decide) (tg_z th245_ (by decide) zh285_)
  have e327_ := (fh299_.2.2.2.2.2 _ (by omega) (by omega) (by rw [z271_]; simp)).trans e298_
  have z328_ : (Gh299_ a0).1 = 0 := by rw [fh299_.2.2.2.2.1 _ (by omega) (by omega)]; exact z271_
  refine k_raw Wh299_ z328_ (Or.inl rfl) e327_ (by first | decide | simp) (fun h329_ sh329_ uh329_ eh329_ gh329_ Wh329_ => ?_)
  have eh329_' : h329_.2.2 a0 = some (.inr (11, [sm_v (vR (some h.1)), sm_v (vR (some h6_.1)), sm_v (vR (some h20_.1)), sm_v (vR (some h42_.1)), sm_v (vR (some h67_.1)), sm_v (vR (some h106_.1)), sm_v (vR (some h145_.1)), sm_v (vR (some h189_.1)), sm_v (vR (some h233_.1)), sm_v (vR (some h272_.1)), .null, .null, .null, .null, .int 0, .int 0, .long 0])) := eh329_
  have e330_ := kg_fr (gh329_ _ (tg_z t313_ (by decide) z328_)) e301_
  have e331_ := kg_fr (gh329_ _ (tg_z t313_ (by decide) z328_)) e302_
  have e332_ := kg_fr (gh329_ _ (tg_z t315_ (by decide) z328_)) e303_
  have e333_ := kg_fr (gh329_ _ (tg_z t315_ (by decide) z328_)) e304_
  have e334_ := kce_fr (gh329_ _ (tg_z t317_ (by decide) z328_)) e305_
  have e335_ := kce_fr (gh329_ _ (tg_z t318_ (by decide) z328_)) e306_
  have e336_ := kce_fr (gh329_ _ (tg_z t319_ (by decide) z328_)) e307_
  have e337_ := kce_fr (gh329_ _ (tg_z t320_ (by decide) z328_)) e308_
  have e338_ := kg_fr (gh329_ _ (tg_z t322_ (by decide) z328_)) e309_
  have e339_ := kg_fr (gh329_ _ (tg_z t324_ (by decide) z328_)) e310_
  have e340_ := kg_fr (gh329_ _ (tg_z t325_ (by decide) z328_)) e311_
  have e341_ := kce_fr (gh329_ _ (tg_z t326_ (by decide) z328_)) e312_
  refine k_new (n := 3) Wh329_ (by omega) rfl (fun h342_ sh342_ uh342_ eh342_ gh342_ Wh342_ zh342_ => ?_)
  have e343_ := kg_fr (gh342_ _ (Nat.ne_of_lt (tG_lt Wh329_ t313_ (by decide)))) e330_
  have e344_ := kg_fr (gh342_ _ (Nat.ne_of_lt (tG_lt Wh329_ t313_ (by decide)))) e331_
  have e345_ := kg_fr (gh342_ _ (Nat.ne_of_lt (tG_lt Wh329_ t315_ (by decide)))) e332_
  have e346_ := kg_fr (gh342_ _ (Nat.ne_of_lt (tG_lt Wh329_ t315_ (by decide)))) e333_
  have e347_ := kce_fr (gh342_ _ (Nat.ne_of_lt (tG_lt Wh329_ t317_ (by decide)))) e334_
  have e348_ := kce_fr (gh342_ _ (Nat.ne_of_lt (tG_lt Wh329_ t318_ (by decide)))) e335_
  have e349_ := kce_fr (gh342_ _ (Nat.ne_of_lt (tG_lt Wh329_ t319_ (by decide)))) e336_
  have e350_ := kce_fr (gh342_ _ (Nat.ne_of_lt (tG_lt Wh329_ t320_ (by decide)))) e337_
  have e351_ := kg_fr (gh342_ _ (Nat.ne_of_lt (tG_lt Wh329_ t322_ (by decide)))) e338_
  have e352_ := kg_fr (gh342_ _ (Nat.ne_of_lt (tG_lt Wh329_ t324_ (by decide)))) e339_
  have e353_ := kg_fr (gh342_ _ (Nat.ne_of_lt (tG_lt Wh329_ t325_ (by decide)))) e340_
  have e354_ := kce_fr (gh342_ _ (Nat.ne_of_lt (tG_lt Wh329_ t326_ (by decide)))) e341_
  have e355_ := (gh342_ _ (by omega)).trans eh329_'
  refine k_cA (by omega) (by omega) (by first | decide | exact fun _ q => q) (kX10_init (R := 0) Wh342_ (by omega) zh342_ eh342_  (by first | omega | assumption | decide) (by first | omega | assumption | decide)) (fun v357_ h356_ Gh356_ fh356_ qh356_ => ?_)
  have Wh356_ := fh356_.1
  have sh356_ := fh356_.2.1
  have th356_ := fh356_.2.2.1
  have uh356_ := fh356_.2.2.2.1
  have e358_ := kg_fr (fh356_.2.2.2.2.2 _ (tG_lt Wh342_ t313_ (by decide)) (tg_z t313_ (by decide) zh342_) (by rw [t313_.1, t313_.2]; first | decide | simp)) e343_
  have e359_ := kg_fr (fh356_.2.2.2.2.2 _ (tG_lt Wh342_ t313_ (by decide)) (tg_z t313_ (by decide) zh342_) (by rw [t313_.1, t313_.2]; first | decide | simp)) e344_
  have e360_ := kg_fr (fh356_.2.2.2.2.2 _ (tG_lt Wh342_ t315_ (by decide)) (tg_z t315_ (by decide) zh342_) (by rw [t315_.1, t315_.2]; first | decide | simp)) e345_
  have e361_ := kg_fr (fh356_.2.2.2.2.2 _ (tG_lt Wh342_ t315_ (by decide)) (tg_z t315_ (by decide) zh342_) (by rw [t315_.1, t315_.2]; first | decide | simp)) e346_
  have e362_ := kce_fr (fh356_.2.2.2.2.2 _ (tG_lt Wh342_ t317_ (by decide)) (tg_z t317_ (by decide) zh342_) (by rw [t317_.1, t317_.2]; first | decide | simp)) e347_
  have e363_ := kce_fr (fh356_.2.2.2.2.2 _ (tG_lt Wh342_ t318_ (by decide)) (tg_z t318_ (by decide) zh342_) (by rw [t318_.1, t318_.2]; first | decide | simp)) e348_
  have e364_ := kce_fr (fh356_.2.2.2.2.2 _ (tG_lt Wh342_ t319_ (by decide)) (tg_z t319_ (by decide) zh342_) (by rw [t319_.1, t319_.2]; first | decide | simp)) e349_
  have e365_ := kce_fr (fh356_.2.2.2.2.2 _ (tG_lt Wh342_ t320_ (by decide)) (tg_z t320_ (by decide) zh342_) (by rw [t320_.1, t320_.2]; first | decide | simp)) e350_
  have e366_ := kg_fr (fh356_.2.2.2.2.2 _ (tG_lt Wh342_ t322_ (by decide)) (tg_z t322_ (by decide) zh342_) (by rw [t322_.1, t322_.2]; first | decide | simp)) e351_
  have e367_ := kg_fr (fh356_.2.2.2.2.2 _ (tG_lt Wh342_ t324_ (by decide)) (tg_z t324_ (by decide) zh342_) (by rw [t324_.1, t324_.2]; first | decide | simp)) e352_
  have e368_ := kg_fr (fh356_.2.2.2.2.2 _ (tG_lt Wh342_ t325_ (by decide)) (tg_z t325_ (by decide) zh342_) (by rw [t325_.1, t325_.2]; first | decide | simp)) e353_
  have e369_ := kce_fr (fh356_.2.2.2.2.2 _ (tG_lt Wh342_ t326_ (by decide)) (tg_z t326_ (by decide) zh342_) (by rw [t326_.1, t326_.2]; first | decide | simp)) e354_
  have t370_ := tg_up fh356_ Wh342_ t313_ (by decide) (tg_z t313_ (by decide) zh342_)
  have t371_ := tg_up fh356_ Wh342_ t314_ (by decide) (tg_z t314_ (by decide) zh342_)
  have := tg_upl fh356_ Wh342_ t314_ (by decide) (tg_z t314_ (by decide) zh342_)
  have t372_ := tg_up fh356_ Wh342_ t315_ (by decide) (tg_z t315_ (by decide) zh342_)
  have t373_ := tg_up fh356_ Wh342_ t316_ (by decide) (tg_z t316_ (by decide) zh342_)
  have := tg_upl fh356_ Wh342_ t316_ (by decide) (tg_z t316_ (by decide) zh342_)
  have t374_ := tg_up fh356_ Wh342_ t317_ (by decide) (tg_z t317_ (by decide) zh342_)
  have t375_ := tg_up fh356_ Wh342_ t318_ (by decide) (tg_z t318_ (by decide) zh342_)
  have := tg_upl fh356_ Wh342_ t318_ (by decide) (tg_z t318_ (by decide) zh342_)
  have t376_ := tg_up fh356_ Wh342_ t319_ (by decide) (tg_z t319_ (by decide) zh342_)
  have := tg_upl fh356_ Wh342_ t319_ (by decide) (tg_z t319_ (by decide) zh342_)
  have t377_ := tg_up fh356_ Wh342_ t320_ (by decide) (tg_z t320_ (by decide) zh342_)
  have := tg_upl fh356_ Wh342_ t320_ (by decide) (tg_z t320_ (by decide) zh342_)
  have t378_ := tg_up fh356_ Wh342_ t321_ (by decide) (tg_z t321_ (by decide) zh342_)
  have t379_ := tg_up fh356_ Wh342_ t322_ (by decide) (tg_z t322_ (by decide) zh342_)
  have t380_ := tg_up fh356_ Wh342_ t323_ (by decide) (tg_z t323_ (by decide) zh342_)
  have t381_ := tg_up fh356_ Wh342_ t324_ (by decide) (tg_z t324_ (by decide) zh342_)
  have t382_ := tg_up fh356_ Wh342_ t325_ (by decide) (tg_z t325_ (by decide) zh342_)
  have t383_ := tg_up fh356_ Wh342_ t326_ (by decide) (tg_z t326_ (by decide) zh342_)
  have := tg_upl fh356_ Wh342_ t326_ (by decide) (tg_z t326_ (by decide) zh342_)
  have t384_ := tg_up fh356_ Wh342_ qh299_ (by decide) (tg_z qh299_ (by decide) zh342_)
  have e385_ := (fh356_.2.2.2.2.2 _ (by omega) (by omega) (by rw [z328_]; simp)).trans e355_
  have z386_ : (Gh356_ a0).1 = 0 := by rw [fh356_.2.2.2.2.1 _ (by omega) (by omega)]; exact z328_
  refine k_raw Wh356_ z386_ (Or.inl rfl) e385_ (by first | decide | simp) (fun h387_ sh387_ uh387_ eh387_ gh387_ Wh387_ => ?_)
  have eh387_' : h387_.2.2 a0 = some (.inr (11, [sm_v (vR (some h.1)), sm_v (vR (some h6_.1)), sm_v (vR (some h20_.1)), sm_v (vR (some h42_.1)), sm_v (vR (some h67_.1)), sm_v (vR (some h106_.1)), sm_v (vR (some h145_.1)), sm_v (vR (some h189_.1)), sm_v (vR (some h233_.1)), sm_v (vR (some h272_.1)), sm_v (vR (some h329_.1)), .null, .null, .null, .int 0, .int 0, .long 0])) := eh387_
  have e388_ := kg_fr (gh387_ _ (tg_z t370_ (by decide) z386_)) e358_
  have e389_ := kg_fr (gh387_ _ (tg_z t370_ (by decide) z386_)) e359_
  have e390_ := kg_fr (gh387_ _ (tg_z t372_ (by decide) z386_)) e360_
  have e391_ := kg_fr (gh387_ _ (tg_z t372_ (by decide) z386_)) e361_
  have e392_ := kce_fr (gh387_ _ (tg_z t374_ (by decide) z386_)) e362_
  have e393_ := kce_fr (gh387_ _ (tg_z t375_ (by decide) z386_)) e363_
  have e394_ := kce_fr (gh387_ _ (tg_z t376_ (by decide) z386_)) e364_
  have e395_ := kce_fr (gh387_ _ (tg_z t377_ (by decide) z386_)) e365_
  have e396_ := kg_fr (gh387_ _ (tg_z t379_ (by decide) z386_)) e366_
  have e397_ := kg_fr (gh387_ _ (tg_z t381_ (by decide) z386_)) e367_
  have e398_ := kg_fr (gh387_ _ (tg_z t382_ (by decide) z386_)) e368_
  have e399_ := kce_fr (gh387_ _ (tg_z t383_ (by decide) z386_)) e369_
  refine k_new (n := 3) Wh387_ (by omega) rfl (fun h400_ sh400_ uh400_ eh400_ gh400_ Wh400_ zh400_ => ?_)
  have e401_ := kg_fr (gh400_ _ (Nat.ne_of_lt (tG_lt Wh387_ t370_ (by decide)))) e388_
  have e402_ := kg_fr (gh400_ _ (Nat.ne_of_lt (tG_lt Wh387_ t370_ (by decide)))) e389_
  have e403_ := kg_fr (gh400_ _ (Nat.ne_of_lt (tG_lt Wh387_ t372_ (by decide)))) e390_
  have e404_ := kg_fr (gh400_ _ (Nat.ne_of_lt (tG_lt Wh387_ t372_ (by decide)))) e391_
  have e405_ := kce_fr (gh400_ _ (Nat.ne_of_lt (tG_lt Wh387_ t374_ (by decide)))) e392_
  have e406_ := kce_fr (gh400_ _ (Nat.ne_of_lt (tG_lt Wh387_ t375_ (by decide)))) e393_
  have e407_ := kce_fr (gh400_ _ (Nat.ne_of_lt (tG_lt Wh387_ t376_ (by decide)))) e394_
  have e408_ := kce_fr (gh400_ _ (Nat.ne_of_lt (tG_lt Wh387_ t377_ (by decide)))) e395_
  have e409_ := kg_fr (gh400_ _ (Nat.ne_of_lt (tG_lt Wh387_ t379_ (by decide)))) e396_
  have e410_ := kg_fr (gh400_ _ (Nat.ne_of_lt (tG_lt Wh387_ t381_ (by decide)))) e397_
  have e411_ := kg_fr (gh400_ _ (Nat.ne_of_lt (tG_lt Wh387_ t382_ (by decide)))) e398_
  have e412_ := kce_fr (gh400_ _ (Nat.ne_of_lt (tG_lt Wh387_ t383_ (by decide)))) e399_
  have e413_ := (gh400_ _ (by omega)).trans eh387_'
  refine k_cA (by omega) (by omega) (by first | decide | exact fun _ q => q) (kX10_init (R := 0) Wh400_ (by omega) zh400_ eh400_  (by first | omega | assumption | decide) (by first | omega | assumption | decide)) (fun v415_ h414_ Gh414_ fh414_ qh414_ => ?_)
  have Wh414_ := fh414_.1
  have sh414_ := fh414_.2.1
  have th414_ := fh414_.2.2.1
  have uh414_ := fh414_.2.2.2.1
  have e416_ := kg_fr (fh414_.2.2.2.2.2 _ (tG_lt Wh400_ t370_ (by decide)) (tg_z t370_ (by decide) zh400_) (by rw [t370_.1, t370_.2]; first | decide | simp)) e401_
  have e417_ := kg_fr (fh414_.2.2.2.2.2 _ (tG_lt Wh400_ t370_ (by decide)) (tg_z t370_ (by decide) zh400_) (by rw [t370_.1, t370_.2]; first | decide | simp)) e402_
  have e418_ := kg_fr (fh414_.2.2.2.2.2 _ (tG_lt Wh400_ t372_ (by decide)) (tg_z t372_ (by decide) zh400_) (by rw [t372_.1, t372_.2]; first | decide | simp)) e403_
  have e419_ := kg_fr (fh414_.2.2.2.2.2 _ (tG_lt Wh400_ t372_ (by decide)) (tg_z t372_ (by decide) zh400_) (by rw [t372_.1, t372_.2]; first | decide | simp)) e404_
  have e420_ := kce_fr (fh414_.2.2.2.2.2 _ (tG_lt Wh400_ t374_ (by decide)) (tg_z t374_ (by decide) zh400_) (by rw [t374_.1, t374_.2]; first | decide | simp)) e405_
  have e421_ := kce_fr (fh414_.2.2.2.2.2 _ (tG_lt Wh400_ t375_ (by decide)) (tg_z t375_ (by decide) zh400_) (by rw [t375_.1, t375_.2]; first | decide | simp)) e406_
  have e422_ := kce_fr (fh414_.2.2.2.2.2 _ (tG_lt Wh400_ t376_ (by decide)) (tg_z t376_ (by decide) zh400_) (by rw [t376_.1, t376_.2]; first | decide | simp)) e407_
  have e423_ := kce_fr (fh414_.2.2.2.2.2 _ (tG_lt Wh400_ t377_ (by decide)) (tg_z t377_ (by decide) zh400_) (by rw [t377_.1, t377_.2]; first | decide | simp)) e408_
  have e424_ := kg_fr (fh414_.2.2.2.2.2 _ (tG_lt Wh400_ t379_ (by decide)) (tg_z t379_ (by decide) zh400_) (by rw [t379_.1, t379_.2]; first | decide | simp)) e409_
  have e425_ := kg_fr (fh414_.2.2.2.2.2 _ (tG_lt Wh400_ t381_ (by decide)) (tg_z t381_ (by decide) zh400_) (by rw [t381_.1, t381_.2]; first | decide | simp)) e410_
  have e426_ := kg_fr (fh414_.2.2.2.2.2 _ (tG_lt Wh400_ t382_ (by decide)) (tg_z t382_ (by decide) zh400_) (by rw [t382_.1, t382_.2]; first | decide | simp)) e411_
  have e427_ := kce_fr (fh414_.2.2.2.2.2 _ (tG_lt Wh400_ t383_ (by decide)) (tg_z t383_ (by decide) zh400_) (by rw [t383_.1, t383_.2]; first | decide | simp)) e412_
  have t428_ := tg_up fh414_ Wh400_ t370_ (by decide) (tg_z t370_ (by decide) zh400_)
  have t429_ := tg_up fh414_ Wh400_ t371_ (by decide) (tg_z t371_ (by decide) zh400_)
  have := tg_upl fh414_ Wh400_ t371_ (by decide) (tg_z t371_ (by decide) zh400_)
  have t430_ := tg_up fh414_ Wh400_ t372_ (by decide) (tg_z t372_ (by decide) zh400_)
  have t431_ := tg_up fh414_ Wh400_ t373_ (by decide) (tg_z t373_ (by decide) zh400_)
  have := tg_upl fh414_ Wh400_ t373_ (by decide) (tg_z t373_ (by decide) zh400_)
  have t432_ := tg_up fh414_ Wh400_ t374_ (by decide) (tg_z t374_ (by decide) zh400_)
  have t433_ := tg_up fh414_ Wh400_ t375_ (by decide) (tg_z t375_ (by decide) zh400_)
  have := tg_upl fh414_ Wh400_ t375_ (by decide) (tg_z t375_ (by decide) zh400_)
  have t434_ := tg_up fh414_ Wh400_ t376_ (by decide) (tg_z t376_ (by decide) zh400_)
  have := tg_upl fh414_ Wh400_ t376_ (by decide) (tg_z t376_ (by decide) zh400_)
  have t435_ := tg_up fh414_ Wh400_ t377_ (by decide) (tg_z t377_ (by decide) zh400_)
  have := tg_upl fh414_ Wh400_ t377_ (by decide) (tg_z t377_ (by decide) zh400_)
  have t436_ := tg_up fh414_ Wh400_ t378_ (by decide) (tg_z t378_ (by decide) zh400_)
  have t437_ := tg_up fh414_ Wh400_ t379_ (by decide) (tg_z t379_ (by decide) zh400_)
  have t438_ := tg_up fh414_ Wh400_ t380_ (by decide) (tg_z t380_ (by decide) zh400_)
  have t439_ := tg_up fh414_ Wh400_ t381_ (by decide) (tg_z t381_ (by decide) zh400_)
  have t440_ := tg_up fh414_ Wh400_ t382_ (by decide) (tg_z t382_ (by decide) zh400_)
  have t441_ := tg_up fh414_ Wh400_ t383_ (by decide) (tg_z t383_ (by decide) zh400_)
  have := tg_upl fh414_ Wh400_ t383_ (by decide) (tg_z t383_ (by decide) zh400_)
  have t442_ := tg_up fh414_ Wh400_ t384_ (by decide) (tg_z t384_ (by decide) zh400_)
  have t443_ := tg_up fh414_ Wh400_ qh356_ (by decide) (tg_z qh356_ (by decide) zh400_)
  have e444_ := (fh414_.2.2.2.2.2 _ (by omega) (by omega) (by rw [z386_]; simp)).trans e413_
  have z445_ : (Gh414_ a0).1 = 0 := by rw [fh414_.2.2.2.2.1 _ (by omega) (by omega)]; exact z386_
  refine k_raw Wh414_ z445_ (Or.inl rfl) e444_ (by first | decide | simp) (fun h446_ sh446_ uh446_ eh446_ gh446_ Wh446_ => ?_)
  have eh446_' : h446_.2.2 a0 = some (.inr (11, [sm_v (vR (some h.1)), sm_v (vR (some h6_.1)), sm_v (vR (some h20_.1)), sm_v (vR (some h42_.1)), sm_v (vR (some h67_.1)), sm_v (vR (some h106_.1)), sm_v (vR (some h145_.1)), sm_v (vR (some h189_.1)), sm_v (vR (some h233_.1)), sm_v (vR (some h272_.1)), sm_v (vR (some h329_.1)), sm_v (vR (some h387_.1)), .null, .null, .int 0, .int 0, .long 0])) := eh446_
  have e447_ := kg_fr (gh446_ _ (tg_z t428_ (by decide) z445_)) e416_
  have e448_ := kg_fr (gh446_ _ (tg_z t428_ (by decide) z445_)) e417_
  have e449_ := kg_fr (gh446_ _ (tg_z t430_ (by decide) z445_)) e418_
  have e450_ := kg_fr (gh446_ _ (tg_z t430_ (by decide) z445_)) e419_
  have e451_ := kce_fr (gh446_ _ (tg_z t432_ (by decide) z445_)) e420_
  have e452_ := kce_fr (gh446_ _ (tg_z t433_ (by decide) z445_)) e421_
  have e453_ := kce_fr (gh446_ _ (tg_z t434_ (by decide) z445_)) e422_
  have e454_ := kce_fr (gh446_ _ (tg_z t435_ (by decide) z445_)) e423_
  have e455_ := kg_fr (gh446_ _ (tg_z t437_ (by decide) z445_)) e424_
  have e456_ := kg_fr (gh446_ _ (tg_z t439_ (by decide) z445_)) e425_
  have e457_ := kg_fr (gh446_ _ (tg_z t440_ (by decide) z445_)) e426_
  have e458_ := kce_fr (gh446_ _ (tg_z t441_ (by decide) z445_)) e427_
  refine k_new (n := 3) Wh446_ (by omega) rfl (fun h459_ sh459_ uh459_ eh459_ gh459_ Wh459_ zh459_ => ?_)
  have e460_ := kg_fr (gh459_ _ (Nat.ne_of_lt (tG_lt Wh446_ t428_ (by decide)))) e447_
  have e461_ := kg_fr (gh459_ _ (Nat.ne_of_lt (tG_lt Wh446_ t428_ (by decide)))) e448_
  have e462_ := kg_fr (gh459_ _ (Nat.ne_of_lt (tG_lt Wh446_ t430_ (by decide)))) e449_
  have e463_ := kg_fr (gh459_ _ (Nat.ne_of_lt (tG_lt Wh446_ t430_ (by decide)))) e450_
  have e464_ := kce_fr (gh459_ _ (Nat.ne_of_lt (tG_lt Wh446_ t432_ (by decide)))) e451_
  have e465_ := kce_fr (gh459_ _ (Nat.ne_of_lt (tG_lt Wh446_ t433_ (by decide)))) e452_
  have e466_ := kce_fr (gh459_ _ (Nat.ne_of_lt (tG_lt Wh446_ t434_ (by decide)))) e453_
  have e467_ := kce_fr (gh459_ _ (Nat.ne_of_lt (tG_lt Wh446_ t435_ (by decide)))) e454_
  have e468_ := kg_fr (gh459_ _ (Nat.ne_of_lt (tG_lt Wh446_ t437_ (by decide)))) e455_
  have e469_ := kg_fr (gh459_ _ (Nat.ne_of_lt (tG_lt Wh446_ t439_ (by decide)))) e456_
  have e470_ := kg_fr (gh459_ _ (Nat.ne_of_lt (tG_lt Wh446_ t440_ (by decide)))) e457_
  have e471_ := kce_fr (gh459_ _ (Nat.ne_of_lt (tG_lt Wh446_ t441_ (by decide)))) e458_
  have e472_ := (gh459_ _ (by omega)).trans eh446_'
  refine k_cA (by omega) (by omega) (by first | decide | exact fun _ q => q) (kX10_init (R := 0) Wh459_ (by omega) zh459_ eh459_  (by first | omega | assumption | decide) (by first | omega | assumption | decide)) (fun v474_ h473_ Gh473_ fh473_ qh473_ => ?_)
  have Wh473_ := fh473_.1
  have sh473_ := fh473_.2.1
  have th473_ := fh473_.2.2.1
  have uh473_ := fh473_.2.2.2.1
  have e475_ := kg_fr (fh473_.2.2.2.2.2 _ (tG_lt Wh459_ t428_ (by decide)) (tg_z t428_ (by decide) zh459_) (by rw [t428_.1, t428_.2]; first | decide | simp)) e460_
  have e476_ := kg_fr (fh473_.2.2.2.2.2 _ (tG_lt Wh459_ t428_ (by decide)) (tg_z t428_ (by decide) zh459_) (by rw [t428_.1, t428_.2]; first | decide | simp)) e461_
  have e477_ := kg_fr (fh473_.2.2.2.2.2 _ (tG_lt Wh459_ t430_ (by decide)) (tg_z t430_ (by decide) zh459_) (by rw [t430_.1, t430_.2]; first | decide | simp)) e462_
  have e478_ := kg_fr (fh473_.2.2.2.2.2 _ (tG_lt Wh459_ t430_ (by decide)) (tg_z t430_ (by decide) zh459_) (by rw [t430_.1, t430_.2]; first | decide | simp)) e463_
  have e479_ := kce_fr (fh473_.2.2.2.2.2 _ (tG_lt Wh459_ t432_ (by decide)) (tg_z t432_ (by decide) zh459_) (by rw [t432_.1, t432_.2]; first | decide | simp)) e464_
  have e480_ := kce_fr (fh473_.2.2.2.2.2 _ (tG_lt Wh459_ t433_ (by decide)) (tg_z t433_ (by decide) zh459_) (by rw [t433_.1, t433_.2]; first | decide | simp)) e465_
  have e481_ := kce_fr (fh473_.2.2.2.2.2 _ (tG_lt Wh459_ t434_ (by decide)) (tg_z t434_ (by decide) zh459_) (by rw [t434_.1, t434_.2]; first | decide | simp)) e466_
  have e482_ := kce_fr (fh473_.2.2.2.2.2 _ (tG_lt Wh459_ t435_ (by decide)) (tg_z t435_ (by decide) zh459_) (by rw [t435_.1, t435_.2]; first | decide | simp)) e467_
  have e483_ := kg_fr (fh473_.2.2.2.2.2 _ (tG_lt Wh459_ t437_ (by decide)) (tg_z t437_ (by decide) zh459_) (by rw [t437_.1, t437_.2]; first | decide | simp)) e468_
  have e484_ := kg_fr (fh473_.2.2.2.2.2 _ (tG_lt Wh459_ t439_ (by decide)) (tg_z t439_ (by decide) zh459_) (by rw [t439_.1, t439_.2]; first | decide | simp)) e469_
  have e485_ := kg_fr (fh473_.2.2.2.2.2 _ (tG_lt Wh459_ t440_ (by decide)) (tg_z t440_ (by decide) zh459_) (by rw [t440_.1, t440_.2]; first | decide | simp)) e470_
  have e486_ := kce_fr (fh473_.2.2.2.2.2 _ (tG_lt Wh459_ t441_ (by decide)) (tg_z t441_ (by decide) zh459_) (by rw [t441_.1, t441_.2]; first | decide | simp)) e471_
  have t487_ := tg_up fh473_ Wh459_ t428_ (by decide) (tg_z t428_ (by decide) zh459_)
  have t488_ := tg_up fh473_ Wh459_ t429_ (by decide) (tg_z t429_ (by decide) zh459_)
  have := tg_upl fh473_ Wh459_ t429_ (by decide) (tg_z t429_ (by decide) zh459_)
  have t489_ := tg_up fh473_ Wh459_ t430_ (by decide) (tg_z t430_ (by decide) zh459_)
  have t490_ := tg_up fh473_ Wh459_ t431_ (by decide) (tg_z t431_ (by decide) zh459_)
  have := tg_upl fh473_ Wh459_ t431_ (by decide) (tg_z t431_ (by decide) zh459_)
  have t491_ := tg_up fh473_ Wh459_ t432_ (by decide) (tg_z t432_ (by decide) zh459_)
  have t492_ := tg_up fh473_ Wh459_ t433_ (by decide) (tg_z t433_ (by decide) zh459_)
  have := tg_upl fh473_ Wh459_ t433_ (by decide) (tg_z t433_ (by decide) zh459_)
  have t493_ := tg_up fh473_ Wh459_ t434_ (by decide) (tg_z t434_ (by decide) zh459_)
  have := tg_upl fh473_ Wh459_ t434_ (by decide) (tg_z t434_ (by decide) zh459_)
  have t494_ := tg_up fh473_ Wh459_ t435_ (by decide) (tg_z t435_ (by decide) zh459_)
  have := tg_upl fh473_ Wh459_ t435_ (by decide) (tg_z t435_ (by decide) zh459_)
  have t495_ := tg_up fh473_ Wh459_ t436_ (by decide) (tg_z t436_ (by decide) zh459_)
  have t496_ := tg_up fh473_ Wh459_ t437_ (by decide) (tg_z t437_ (by decide) zh459_)
  have t497_ := tg_up fh473_ Wh459_ t438_ (by decide) (tg_z t438_ (by decide) zh459_)
  have t498_ := tg_up fh473_ Wh459_ t439_ (by decide) (tg_z t439_ (by decide) zh459_)
  have t499_ := tg_up fh473_ Wh459_ t440_ (by decide) (tg_z t440_ (by decide) zh459_)
  have t500_ := tg_up fh473_ Wh459_ t441_ (by decide) (tg_z t441_ (by decide) zh459_)
  have := tg_upl fh473_ Wh459_ t441_ (by decide) (tg_z t441_ (by decide) zh459_)
  have t501_ := tg_up fh473_ Wh459_ t442_ (by decide) (tg_z t442_ (by decide) zh459_)
  have t502_ := tg_up fh473_ Wh459_ t443_ (by decide) (tg_z t443_ (by decide) zh459_)
  have t503_ := tg_up fh473_ Wh459_ qh414_ (by decide) (tg_z qh414_ (by decide) zh459_)
  have e504_ := (fh473_.2.2.2.2.2 _ (by omega) (by omega) (by rw [z445_]; simp)).trans e472_
  have z505_ : (Gh473_ a0).1 = 0 := by rw [fh473_.2.2.2.2.1 _ (by omega) (by omega)]; exact z445_
  refine k_raw Wh473_ z505_ (Or.inl rfl) e504_ (by first | decide | simp) (fun h506_ sh506_ uh506_ eh506_ gh506_ Wh506_ => ?_)
  have eh506_' : h506_.2.2 a0 = some (.inr (11, [sm_v (vR (some h.1)), sm_v (vR (some h6_.1)), sm_v (vR (some h20_.1)), sm_v (vR (some h42_.1)), sm_v (vR (some h67_.1)), sm_v (vR (some h106_.1)), sm_v (vR (some h145_.1)), sm_v (vR (some h189_.1)), sm_v (vR (some h233_.1)), sm_v (vR (some h272_.1)), sm_v (vR (some h329_.1)), sm_v (vR (some h387_.1)), sm_v (vR (some h446_.1)), .null, .int 0, .int 0, .long 0])) := eh506_
  have e507_ := kg_fr (gh506_ _ (tg_z t487_ (by decide) z505_)) e475_
  have e508_ := kg_fr (gh506_ _ (tg_z t487_ (by decide) z505_)) e476_
  have e509_ := kg_fr (gh506_ _ (tg_z t489_ (by decide) z505_)) e477_
  have e510_ := kg_fr (gh506_ _ (tg_z t489_ (by decide) z505_)) e478_
  have e511_ := kce_fr (gh506_ _ (tg_z t491_ (by decide) z505_)) e479_
  have e512_ := kce_fr (gh506_ _ (tg_z t492_ (by decide) z505_)) e480_
  have e513_ := kce_fr (gh506_ _ (tg_z t493_ (by decide) z505_)) e481_
  have e514_ := kce_fr (gh506_ _ (tg_z t494_ (by decide) z505_)) e482_
  have e515_ := kg_fr (gh506_ _ (tg_z t496_ (by decide) z505_)) e483_
  have e516_ := kg_fr (gh506_ _ (tg_z t498_ (by decide) z505_)) e484_
  have e517_ := kg_fr (gh506_ _ (tg_z t499_ (by decide) z505_)) e485_
  have e518_ := kce_fr (gh506_ _ (tg_z t500_ (by decide) z505_)) e486_
  refine k_new (n := 3) Wh506_ (by omega) rfl (fun h519_ sh519_ uh519_ eh519_ gh519_ Wh519_ zh519_ => ?_)
  have e520_ := kg_fr (gh519_ _ (Nat.ne_of_lt (tG_lt Wh506_ t487_ (by decide)))) e507_
  have e521_ := kg_fr (gh519_ _ (Nat.ne_of_lt (tG_lt Wh506_ t487_ (by decide)))) e508_
  have e522_ := kg_fr (gh519_ _ (Nat.ne_of_lt (tG_lt Wh506_ t489_ (by decide)))) e509_
  have e523_ := kg_fr (gh519_ _ (Nat.ne_of_lt (tG_lt Wh506_ t489_ (by decide)))) e510_
  have e524_ := kce_fr (gh519_ _ (Nat.ne_of_lt (tG_lt Wh506_ t491_ (by decide)))) e511_
  have e525_ := kce_fr (gh519_ _ (Nat.ne_of_lt (tG_lt Wh506_ t492_ (by decide)))) e512_
  have e526_ := kce_fr (gh519_ _ (Nat.ne_of_lt (tG_lt Wh506_ t493_ (by decide)))) e513_
  have e527_ := kce_fr (gh519_ _ (Nat.ne_of_lt (tG_lt Wh506_ t494_ (by decide)))) e514_
  have e528_ := kg_fr (gh519_ _ (Nat.ne_of_lt (tG_lt Wh506_ t496_ (by decide)))) e515_
  have e529_ := kg_fr (gh519_ _ (Nat.ne_of_lt (tG_lt Wh506_ t498_ (by decide)))) e516_
  have e530_ := kg_fr (gh519_ _ (Nat.ne_of_lt (tG_lt Wh506_ t499_ (by decide)))) e517_
  have e531_ := kce_fr (gh519_ _ (Nat.ne_of_lt (tG_lt Wh506_ t500_ (by decide)))) e518_
  have e532_ := (gh519_ _ (by omega)).trans eh506_'
  refine k_cA (by omega) (by omega) (by first | decide | exact fun _ q => q) (kX10_init (R := 0) Wh519_ (by omega) zh519_ eh519_  (by first | omega | assumption | decide) (by first | omega | assumption | decide)) (fun v534_ h533_ Gh533_ fh533_ qh533_ => ?_)
  have Wh533_ := fh533_.1
  have sh533_ := fh533_.2.1
  have th533_ := fh533_.2.2.1
  have uh533_ := fh533_.2.2.2.1
  have e535_ := kg_fr (fh533_.2.2.2.2.2 _ (tG_lt Wh519_ t487_ (by decide)) (tg_z t487_ (by decide) zh519_) (by rw [t487_.1, t487_.2]; first | decide | simp)) e520_
  have e536_ := kg_fr (fh533_.2.2.2.2.2 _ (tG_lt Wh519_ t487_ (by decide)) (tg_z t487_ (by decide) zh519_) (by rw [t487_.1, t487_.2]; first | decide | simp)) e521_
  have e537_ := kg_fr (fh533_.2.2.2.2.2 _ (tG_lt Wh519_ t489_ (by decide)) (tg_z t489_ (by decide) zh519_) (by rw [t489_.1, t489_.2]; first | decide | simp)) e522_
  have e538_ := kg_fr (fh533_.2.2.2.2.2 _ (tG_lt Wh519_ t489_ (by decide)) (tg_z t489_ (by decide) zh519_) (by rw [t489_.1, t489_.2]; first | decide | simp)) e523_
  have e539_ := kce_fr (fh533_.2.2.2.2.2 _ (tG_lt Wh519_ t491_ (by decide)) (tg_z t491_ (by decide) zh519_) (by rw [t491_.1, t491_.2]; first | decide | simp)) e524_
  have e540_ := kce_fr (fh533_.2.2.2.2.2 _ (tG_lt Wh519_ t492_ (by decide)) (tg_z t492_ (by decide) zh519_) (by rw [t492_.1, t492_.2]; first | decide | simp)) e525_
  have e541_ := kce_fr (fh533_.2.2.2.2.2 _ (tG_lt Wh519_ t493_ (by decide)) (tg_z t493_ (by decide) zh519_) (by rw [t493_.1, t493_.2]; first | decide | simp)) e526_
  have e542_ := kce_fr (fh533_.2.2.2.2.2 _ (tG_lt Wh519_ t494_ (by decide)) (tg_z t494_ (by decide) zh519_) (by rw [t494_.1, t494_.2]; first | decide | simp)) e527_
  have e543_ := kg_fr (fh533_.2.2.2.2.2 _ (tG_lt Wh519_ t496_ (by decide)) (tg_z t496_ (by decide) zh519_) (by rw [t496_.1, t496_.2]; first | decide | simp)) e528_
  have e544_ := kg_fr (fh533_.2.2.2.2.2 _ (tG_lt Wh519_ t498_ (by decide)) (tg_z t498_ (by decide) zh519_) (by rw [t498_.1, t498_.2]; first | decide | simp)) e529_
  have e545_ := kg_fr (fh533_.2.2.2.2.2 _ (tG_lt Wh519_ t499_ (by decide)) (tg_z t499_ (by decide) zh519_) (by rw [t499_.1, t499_.2]; first | decide | simp)) e530_
  have e546_ := kce_fr (fh533_.2.2.2.2.2 _ (tG_lt Wh519_ t500_ (by decide)) (tg_z t500_ (by decide) zh519_) (by rw [t500_.1, t500_.2]; first | decide | simp)) e531_
  have t547_ := tg_up fh533_ Wh519_ t487_ (by decide) (tg_z t487_ (by decide) zh519_)
  have t548_ := tg_up fh533_ Wh519_ t488_ (by decide) (tg_z t488_ (by decide) zh519_)
  have := tg_upl fh533_ Wh519_ t488_ (by decide) (tg_z t488_ (by decide) zh519_)
  have t549_ := tg_up fh533_ Wh519_ t489_ (by decide) (tg_z t489_ (by decide) zh519_)
  have t550_ := tg_up fh533_ Wh519_ t490_ (by decide) (tg_z t490_ (by decide) zh519_)
  have := tg_upl fh533_ Wh519_ t490_ (by decide) (tg_z t490_ (by decide) zh519_)
  have t551_ := tg_up fh533_ Wh519_ t491_ (by decide) (tg_z t491_ (by decide) zh519_)
  have t552_ := tg_up fh533_ Wh519_ t492_ (by decide) (tg_z t492_ (by decide) zh519_)
  have := tg_upl fh533_ Wh519_ t492_ (by decide) (tg_z t492_ (by decide) zh519_)
  have t553_ := tg_up fh533_ Wh519_ t493_ (by decide) (tg_z t493_ (by decide) zh519_)
  have := tg_upl fh533_ Wh519_ t493_ (by decide) (tg_z t493_ (by decide) zh519_)
  have t554_ := tg_up fh533_ Wh519_ t494_ (by decide) (tg_z t494_ (by decide) zh519_)
  have := tg_upl fh533_ Wh519_ t494_ (by decide) (tg_z t494_ (by decide) zh519_)
  have t555_ := tg_up fh533_ Wh519_ t495_ (by decide) (tg_z t495_ (by decide) zh519_)
  have t556_ := tg_up fh533_ Wh519_ t496_ (by decide) (tg_z t496_ (by decide) zh519_)
  have t557_ := tg_up fh533_ Wh519_ t497_ (by decide) (tg_z t497_ (by decide) zh519_)
  have t558_ := tg_up fh533_ Wh519_ t498_ (by decide) (tg_z t498_ (by decide) zh519_)
  have t559_ := tg_up fh533_ Wh519_ t499_ (by decide) (tg_z t499_ (by decide) zh519_)
  have t560_ := tg_up fh533_ Wh519_ t500_ (by decide) (tg_z t500_ (by decide) zh519_)
  have := tg_upl fh533_ Wh519_ t500_ (by decide) (tg_z t500_ (by decide) zh519_)
  have t561_ := tg_up fh533_ Wh519_ t501_ (by decide) (tg_z t501_ (by decide) zh519_)
  have t562_ := tg_up fh533_ Wh519_ t502_ (by decide) (tg_z t502_ (by decide) zh519_)
  have t563_ := tg_up fh533_ Wh519_ t503_ (by decide) (tg_z t503_ (by decide) zh519_)
  have t564_ := tg_up fh533_ Wh519_ qh473_ (by decide) (tg_z qh473_ (by decide) zh519_)
  have e565_ := (fh533_.2.2.2.2.2 _ (by omega) (by omega) (by rw [z505_]; simp)).trans e532_
  have z566_ : (Gh533_ a0).1 = 0 := by rw [fh533_.2.2.2.2.1 _ (by omega) (by omega)]; exact z505_
  refine k_raw Wh533_ z566_ (Or.inl rfl) e565_ (by first | decide | simp) (fun h567_ sh567_ uh567_ eh567_ gh567_ Wh567_ => ?_)
  have eh567_' : h567_.2.2 a0 = some (.inr (11, [sm_v (vR (some h.1)), sm_v (vR (some h6_.1)), sm_v (vR (some h20_.1)), sm_v (vR (some h42_.1)), sm_v (vR (some h67_.1)), sm_v (vR (some h106_.1)), sm_v (vR (some h145_.1)), sm_v (vR (some h189_.1)), sm_v (vR (some h233_.1)), sm_v (vR (some h272_.1)), sm_v (vR (some h329_.1)), sm_v (vR (some h387_.1)), sm_v (vR (some h446_.1)), sm_v (vR (some h506_.1)), .int 0, .int 0, .long 0])) := eh567_
  have e568_ := kg_fr (gh567_ _ (tg_z t547_ (by decide) z566_)) e535_
  have e569_ := kg_fr (gh567_ _ (tg_z t547_ (by decide) z566_)) e536_
  have e570_ := kg_fr (gh567_ _ (tg_z t549_ (by decide) z566_)) e537_
  have e571_ := kg_fr (gh567_ _ (tg_z t549_ (by decide) z566_)) e538_
  have e572_ := kce_fr (gh567_ _ (tg_z t551_ (by decide) z566_)) e539_
  have e573_ := kce_fr (gh567_ _ (tg_z t552_ (by decide) z566_)) e540_
  have e574_ := kce_fr (gh567_ _ (tg_z t553_ (by decide) z566_)) e541_
  have e575_ := kce_fr (gh567_ _ (tg_z t554_ (by decide) z566_)) e542_
  have e576_ := kg_fr (gh567_ _ (tg_z t556_ (by decide) z566_)) e543_
  have e577_ := kg_fr (gh567_ _ (tg_z t558_ (by decide) z566_)) e544_
  have e578_ := kg_fr (gh567_ _ (tg_z t559_ (by decide) z566_)) e545_
  have e579_ := kce_fr (gh567_ _ (tg_z t560_ (by decide) z566_)) e546_
  refine k_raw Wh567_ z566_ (Or.inl rfl) eh567_' (by first | decide | simp) (fun h580_ sh580_ uh580_ eh580_ gh580_ Wh580_ => ?_)
  have eh580_' : h580_.2.2 a0 = some (.inr (11, [sm_v (vR (some h.1)), sm_v (vR (some h6_.1)), sm_v (vR (some h20_.1)), sm_v (vR (some h42_.1)), sm_v (vR (some h67_.1)), sm_v (vR (some h106_.1)), sm_v (vR (some h145_.1)), sm_v (vR (some h189_.1)), sm_v (vR (some h233_.1)), sm_v (vR (some h272_.1)), sm_v (vR (some h329_.1)), sm_v (vR (some h387_.1)), sm_v (vR (some h446_.1)), sm_v (vR (some h506_.1)), .int 0, sm_v (vI (484 : Int32)), .long 0])) := eh580_
  have e581_ := kg_fr (gh580_ _ (tg_z t547_ (by decide) z566_)) e568_
  have e582_ := kg_fr (gh580_ _ (tg_z t547_ (by decide) z566_)) e569_
  have e583_ := kg_fr (gh580_ _ (tg_z t549_ (by decide) z566_)) e570_
  have e584_ := kg_fr (gh580_ _ (tg_z t549_ (by decide) z566_)) e571_
  have e585_ := kce_fr (gh580_ _ (tg_z t551_ (by decide) z566_)) e572_
  have e586_ := kce_fr (gh580_ _ (tg_z t552_ (by decide) z566_)) e573_
  have e587_ := kce_fr (gh580_ _ (tg_z t553_ (by decide) z566_)) e574_
  have e588_ := kce_fr (gh580_ _ (tg_z t554_ (by decide) z566_)) e575_
  have e589_ := kg_fr (gh580_ _ (tg_z t556_ (by decide) z566_)) e576_
  have e590_ := kg_fr (gh580_ _ (tg_z t558_ (by decide) z566_)) e577_
  have e591_ := kg_fr (gh580_ _ (tg_z t559_ (by decide) z566_)) e578_
  have e592_ := kce_fr (gh580_ _ (tg_z t560_ (by decide) z566_)) e579_
  exact k_rN (ci := 11) (r := 0) Wh580_ z566_ (by omega) (by decide) eh580_' ⟨⟨some h.1, rfl, fun _ => by simp, tN_s t547_⟩, ⟨some h6_.1, rfl, fun _ => by simp, tN_s t549_⟩, ⟨some h20_.1, rfl, fun _ => by simp, tN_s t551_⟩, ⟨some h42_.1, rfl, fun _ => by simp, tN_s t554_⟩, ⟨some h67_.1, rfl, fun _ => by simp, tN_s t555_⟩, ⟨some h106_.1, rfl, fun _ => by simp, tN_s t556_⟩, ⟨some h145_.1, rfl, fun _ => by simp, tN_s t557_⟩, ⟨some h189_.1, rfl, fun _ => by simp, tN_s t558_⟩, ⟨some h233_.1, rfl, fun _ => by simp, tN_s t560_⟩, ⟨some h272_.1, rfl, fun _ => by simp, tN_s t561_⟩, ⟨some h329_.1, rfl, fun _ => by simp, tN_s t562_⟩, ⟨some h387_.1, rfl, fun _ => by simp, tN_s t563_⟩, ⟨some h446_.1, rfl, fun _ => by simp, tN_s t564_⟩, ⟨some h506_.1, rfl, fun _ => by simp, tN_s qh533_⟩, ⟨_, rfl, i_lo _, i_hi _⟩, ⟨_, rfl, i_lo _, i_hi _⟩, ⟨_, rfl⟩, trivial⟩ (by omega) (by omega) (fun _ g t _ => ⟨t, ⟨h.1, it0, ⟨by rw [pu_get eh580_']; rfl, e581_, e582_⟩, tg_nw g (tg_z t547_ (by decide) z566_) t547_, tg_nw g (tg_z t548_ (by decide) z566_) t548_, by rw [g _ (tg_z t548_ (by decide) z566_)]; omega, h106_.1, by rw [pu_get eh580_']; rfl, e589_⟩, ⟨h6_.1, it1, ⟨by rw [pu_get eh580_']; rfl, e583_, e584_⟩, tg_nw g (tg_z t549_ (by decide) z566_) t549_, tg_nw g (tg_z t550_ (by decide) z566_) t550_, by rw [g _ (tg_z t550_ (by decide) z566_)]; omega⟩, ⟨h42_.1, by rw [pu_get eh580_']; rfl, by rw [pu_get eh580_']; rfl, e588_⟩, ⟨h20_.1, th9, io9, tb9, by rw [pu_get eh580_']; rfl, e585_, e586_, e587_⟩, ⟨h233_.1, by rw [pu_get eh580_']; rfl, e592_⟩, ⟨h189_.1, oc6, by rw [pu_get eh580_']; rfl, e590_, e591_⟩, by rw [pu_get eh580_']; rfl, by rw [pu_get eh580_']; rfl⟩)
