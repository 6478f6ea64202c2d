-- the tape (kf = 0) and the name at hand (kf = 1) of the class: the chain, its row, its size
def CH (kf : Nat) (h : sm_H) (a tp it : Nat) (ts : Int32) : Prop := sm_get h (some a) 11 kf = some (va_rf (some tp)) ∧ sm_get h (some tp) 0 0 = some (va_rf (some it)) ∧ sm_get h (some tp) 0 1 = some (.int ts)
section T
variable {Rt Rs : Type} {R : Rt → sm_H → GT → Prop} {G : GT} {h : sm_H} {a c r ci k : Nat}
theorem kc_of {R' : Rs → sm_H → GT → Prop} {X : Option (Rs × sm_H)} {f : Rs → sm_H → Option (Rt × sm_H)} (c : kJ R' X) (kk : ∀ r h' G', R' r h' G' → kJ R (f r h')) : kJ R (sm_cb X f) := by
  obtain ⟨r, h', G', rfl, q⟩ := c
  exact kk r h' G' q
theorem k_WR {m : Option sm_H} {ex : sm_H → Prop} {X : sm_H → Option (Rt × sm_H)} (hs : ∃ h1, m = some h1 ∧ one G h a h1 ∧ ex h1) (kk : ∀ h1, one G h a h1 → ex h1 → kJ R (X h1)) : kJ R (m.bind X) := by
  obtain ⟨h1, rfl, o, q⟩ := hs
  exact kk h1 o q
theorem k_rR {v : Rt} {G' : GT} (q : R v h G') : kJ R (some (v, h)) := ⟨v, h, G', rfl, q⟩
theorem ch_cl {ρ tp it : Nat} {ts : Int32} (W : Wf G h) (t : tG G tp 1 ρ) (e0 : sm_get h (some tp) 0 0 = some (va_rf (some it))) : kJ (fun (_ : Unit) h' _ => fE [(1, ρ)] G h h' ∧ sm_get h' (some tp) 0 0 = some (va_rf (some it)) ∧ sm_get h' (some tp) 0 1 = some (.int 0)) (fX0_clear tp h) := by
  unfold fX0_clear
  refine k_WR (w_putI (ci := 0) (k := 1) (lo := 0) (hi := 1200) (v := 0) W t (by decide) rfl (by decide) (by decide)) (fun h1 o1 x1 => ?_)
  exact k_rR (G' := G) ⟨one_fE o1 t, ((x1 0).trans (if_neg (by decide))).trans e0, (x1 1).trans (if_pos rfl)⟩
theorem ch_ad {ρ tp it : Nat} {ts : Int32} {v : Int64} (W : Wf G h) (t : tG G tp 1 ρ) (ti : tG G it 21 ρ) (e0 : sm_get h (some tp) 0 0 = some (va_rf (some it))) (e1 : sm_get h (some tp) 0 1 = some (.int ts)) (h0 : 0 ≤ ts.toInt) (h1 : ts.toInt < ((G it).2.1 : Int)) : kJ (fun (r : Int32) h' _ => r = 1 ∧ fE [(1, ρ), (21, ρ)] G h h' ∧ sm_get h' (some tp) 0 0 = some (va_rf (some it)) ∧ sm_get h' (some tp) 0 1 = some (.int (ts + 1))) (fX0_add tp v h) := by
  have L0 : (0 : Int32).toInt = 0 := rfl
  have hl := (kw_arr (tt := 1) W ti).choose_spec.2.1
  have hb : aB (20 + 1) = 1200 := rfl
  unfold fX0_add
  refine k_kI e1 ?_
  refine k_lt (fun c => ?_) (fun c => ?_)
  · exfalso; omega
  · refine k_kI e1 ?_
    refine k_kR e0 ?_
    refine k_len (B := 1200) W ti rfl (fun x4 l4 u4 => ?_)
    refine k_lt (fun c2 => ?_) (fun c2 => ?_)
    · refine k_kR e0 ?_
      refine k_kI e1 ?_
      refine k_WR (w_sJ W ti h0 h1) (fun h7 o7 _ => ?_)
      have e7 := kg_fr (o7.2.2.2 _ (tg_ne t ti (by simp))) e1
      have e70 := kg_fr (o7.2.2.2 _ (tg_ne t ti (by simp))) e0
      refine k_kI e7 ?_
      have i1 : (ts + 1).toInt = ts.toInt + 1 := i_add1 (by omega)
      refine k_WR (w_putI (ci := 0) (k := 1) (lo := 0) (hi := 1200) o7.1 t (by decide) rfl (by omega) (by omega)) (fun h9 o9 x9 => ?_)
      refine k_rR (G' := G) ⟨rfl, ?_, ((x9 0).trans (if_neg (by decide))).trans e70, (x9 1).trans (if_pos rfl)⟩
      refine fE_tr (E := [(1, ρ), (21, ρ)]) (one_fE o7 ti) (by simp) ?_
      have f9 := one_fE o9 t
      exact ⟨f9.1, f9.2.1, f9.2.2.1, fun b hb => f9.2.2.2 b (fun q => hb (by simp at q ⊢; exact Or.inl q))⟩
    · exfalso; omega
end T
theorem CH_fr {kf : Nat} {E : List (Nat × Nat)} {G : GT} {h h1 : sm_H} {a tp it : Nat} {ts : Int32} (f : ∀ b, b < h.1 → ((G b).1, (G b).2.2) ∉ E → h1.2.2 b = h.2.2 b) (W : Wf G h) (ta : tG G a 12 0) {ρ : Nat} (tt : tG G tp 1 ρ) (ea : (12, 0) ∉ E) (et : (1, ρ) ∉ E) (q : CH kf h a tp it ts) : CH kf h1 a tp it ts :=
  ⟨kg_fr (f a (tG_lt W ta (by decide)) (by rw [ta.1, ta.2]; exact ea)) q.1, kg_fr (f tp (tG_lt W tt (by decide)) (by rw [tt.1, tt.2]; exact et)) q.2.1, kg_fr (f tp (tG_lt W tt (by decide)) (by rw [tt.1, tt.2]; exact et)) q.2.2⟩
theorem fE_f {E : List (Nat × Nat)} {G : GT} {h h1 : sm_H} (f : fE E G h h1) : ∀ b, b < h.1 → ((G b).1, (G b).2.2) ∉ E → h1.2.2 b = h.2.2 b := fun b _ q => f.2.2.2 b q
theorem CH_cl {kf : Nat} {G : GT} {h h1 : sm_H} {a tp it : Nat} {ts : Int32} {ρ : Nat} (W : Wf G h) (ta : tG G a 12 0) (q : CH kf h a tp it ts) (f : fE [(1, ρ)] G h h1) (e0 : sm_get h1 (some tp) 0 0 = some (va_rf (some it))) (e1 : sm_get h1 (some tp) 0 1 = some (.int 0)) : CH kf h1 a tp it 0 := ⟨kg_fr (f.2.2.2 a (by rw [ta.1, ta.2]; simp)) q.1, e0, e1⟩
-- calls that empty the tape
section TT
variable {G : GT} {h : sm_H} {a0 tp it : Nat} {ts : Int32}
set_option maxHeartbeats 4000000 in
theorem tz_text {a1 a2 : Int32} (W : Wf G h) (ta : tG G a0 12 0) (tt : tG G tp 1 1) (q : CH 0 h a0 tp it ts) : kJ (fun (_ : Int32) h' _ => CH 0 h' a0 tp it 0) (fX11_text a0 a1 a2 h) := by
  unfold fX11_text
  refine k_obj W ta (by decide) ?_
  refine kc_of (kX11_becomeText W ta) (fun x1 h2 G2 c2 => ?_)
  obtain ⟨rfl, f2, _⟩ := c2
  have q2 := CH_fr (fE_f f2) W ta tt (by simp) (by simp) q
  refine k_kR q2.1 ?_
  refine k_obj f2.1 tt (by decide) ?_
  refine kc_of (ch_cl (ts := 0) f2.1 tt q2.2.1) (fun _ h4 _ c4 => ?_)
  exact k_rR (G' := G2) (CH_cl f2.1 ta q2 c4.1 c4.2.1 c4.2.2)
set_option maxHeartbeats 4000000 in
theorem tz_community {a1 : Int32} (W : Wf G h) (ta : tG G a0 12 0) (tt : tG G tp 1 1) (p : a1 = 0 ∨ a1 = 1) (q : CH 0 h a0 tp it ts) : kJ (fun (_ : Int32) h' _ => CH 0 h' a0 tp it 0) (fX11_community a0 a1 h) := by
  unfold fX11_community
  refine k_obj W ta (by decide) ?_
  refine kc_of (kt0X11_newCommunity W ta p tt q.1) (fun x1 h2 G2 c2 => ?_)
  obtain ⟨⟨W2, s2, -, -, g2, f2⟩, e2⟩ := c2
  have la := tG_lt W ta (by decide)
  have lt := tG_lt W tt (by decide)
  have ta2 : tG G2 a0 12 0 := by unfold tG; rw [g2 a0 la (Nat.ne_of_lt la)]; exact ta
  have tt2 : tG G2 tp 1 1 := by unfold tG; rw [g2 tp lt (Nat.ne_of_lt lt)]; exact tt
  have fp := f2 tp lt (Nat.ne_of_lt lt) (by rw [tt.1, tt.2]; simp)
  have q2 : CH 0 h2 a0 tp it ts := ⟨e2, kg_fr fp q.2.1, kg_fr fp q.2.2⟩
  refine k_kR q2.1 ?_
  refine k_obj W2 tt2 (by decide) ?_
  refine kc_of (ch_cl (ts := 0) W2 tt2 q2.2.1) (fun _ h4 _ c4 => ?_)
  exact k_rR (G' := G2) (CH_cl W2 ta2 q2 c4.1 c4.2.1 c4.2.2)
set_option maxHeartbeats 4000000 in
theorem tz_question (W : Wf G h) (ta : tG G a0 12 0) (tt : tG G tp 1 1) (q : CH 0 h a0 tp it ts) : kJ (fun (_ : Int32) h' _ => CH 0 h' a0 tp it 0) (fX11_question a0 h) := by
  unfold fX11_question
  refine k_gR (r' := 0) W ta (by decide) rfl rfl (fun x1 e1 t1 => ?_)
  refine k_obj W t1 (by decide) ?_
  refine kc_of (kX6_clear W t1) (fun _ h2 G2 c2 => ?_)
  obtain ⟨rfl, f2, _⟩ := c2
  have W2 := f2.1
  have q2 := CH_fr (fE_f f2) W ta tt (by simp) (by simp) q
  refine k_obj W2 ta (by decide) ?_
  refine kc_of (kX11_takeMessage W2 ta) (fun x3 h4 G4 c4 => ?_)
  obtain ⟨rfl, f4, _⟩ := c4
  have W4 := f4.1
  have q4 := CH_fr (fE_f f4) W2 ta tt (by simp) (by simp) q2
  refine k_kR q4.1 ?_
  refine k_obj W4 tt (by decide) ?_
  refine kc_of (ch_cl (ts := 0) W4 tt q4.2.1) (fun _ h6 _ c6 => ?_)
  have W6 := c6.1.1
  have q6 := CH_cl W4 ta q4 c6.1 c6.2.1 c6.2.2
  have fin : ∀ h9, Wf G4 h9 → CH 0 h9 a0 tp it 0 → kJ (fun (_ : Int32) h' _ => CH 0 h' a0 tp it 0) ((sm_obj h9 (some a0) 11).bind fun b => sm_cb (fX11_give b h9) fun x h' => some (x, h')) := by
    intro h9 W9 q9
    refine k_obj W9 ta (by decide) ?_
    refine kc_of (kX11_give W9 ta) (fun x10 h11 G11 c11 => ?_)
    obtain ⟨rfl, f11, _⟩ := c11
    exact k_rR (G' := G11) (CH_fr (fE_f f11) W9 ta tt (by simp) (by simp) q9)
  refine k_if (fun c => ?_) (fun c => ?_)
  · refine k_gR (r' := 0) W6 ta (by decide) rfl rfl (fun x7 e7 t7 => ?_)
    refine k_gI W6 t7 (by decide) rfl (fun x8 e8 _ _ => ?_)
    refine k_if (fun c => ?_) (fun c => ?_)
    · refine k_obj W6 ta (by decide) ?_
      refine kc_of (kX11_tellValues W6 ta) (fun _ h9 G9 c9 => ?_)
      obtain ⟨rfl, f9, _⟩ := c9
      exact fin h9 f9.1 (CH_fr (fE_f f9) W6 ta tt (by simp) (by simp) q6)
    · refine k_if (fun c => ?_) (fun c => ?_)
      · refine k_obj W6 ta (by decide) ?_
        refine kc_of (kX11_tellNexts W6 ta) (fun _ h9 G9 c9 => ?_)
        obtain ⟨rfl, f9, _⟩ := c9
        exact fin h9 f9.1 (CH_fr (fE_f f9) W6 ta tt (by simp) (by simp) q6)
      · refine k_if (fun c => ?_) (fun c => ?_)
        · refine k_obj W6 ta (by decide) ?_
          refine kc_of (kX11_tellMany W6 ta) (fun _ h9 G9 c9 => ?_)
          obtain ⟨rfl, f9, _⟩ := c9
          exact fin h9 f9.1 (CH_fr (fE_f f9) W6 ta tt (by simp) (by simp) q6)
        · refine k_obj W6 ta (by decide) ?_
          refine kc_of (kX11_tellSet W6 ta) (fun _ h9 G9 c9 => ?_)
          obtain ⟨rfl, f9, _⟩ := c9
          exact fin h9 f9.1 (CH_fr (fE_f f9) W6 ta tt (by simp) (by simp) q6)
  · refine k_obj W6 ta (by decide) ?_
    refine kc_of (kX11_countOne W6 ta) (fun _ h9 G9 c9 => ?_)
    obtain ⟨rfl, f9, _⟩ := c9
    exact k_rR (G' := G9) (CH_fr (fE_f f9) W6 ta tt (by simp) (by simp) q6)
theorem sz_ex {tp : Nat} {ts : Int32} (e : sm_get h (some tp) 0 1 = some (.int ts)) : kJ (fun (r : Int32) h' _ => r = ts ∧ h' = h) (fX0_size tp h) := by
  unfold fX0_size
  refine k_kI e ?_
  exact k_rR (G' := fun _ => (0, 0, 0)) ⟨rfl, rfl⟩
set_option maxHeartbeats 4000000 in
theorem tz_feed_49 {g : Int} {a0 tp it : Nat} (ta : tG G a0 12 0) (tt : tG G tp 1 1) (ti : tG G it 21 1) (hl : (G it).2.1 = 1200) : ∀ (n : Nat) (a1 : Int64) (a4 : Int32) (h : sm_H) (ts : Int32), Wf G h → CH 0 h a0 tp it ts → -1 ≤ a4.toInt → a4.toInt ≤ 7 → 0 ≤ ts.toInt → ts.toInt + a4.toInt + 1 = g → g ≤ 1200 → a4.toInt + 1 < (n : Int) → kJ (fun (r : Int32) h' _ => ∃ ts', CH 0 h' a0 tp it ts' ∧ r.toInt = g ∧ ts'.toInt = g) (fX11_feed_49 n a0 a1 a4 h) := by
  have L0 : (0 : Int32).toInt = 0 := rfl
  have L1 : (1 : Int32).toInt = 1 := rfl
  have Lm : (-1 : Int32).toInt = -1 := rfl
  intro n
  induction n with
  | zero => intro a1 a4 h ts W q p0 p1 p2 p3 p4 m; exfalso; omega
  | succ n ih =>
    intro a1 a4 h ts W q p0 p1 p2 p3 p4 m
    unfold fX11_feed_49
    refine k_lt (fun c => ?_) (fun c => ?_)
    · refine k_kR q.1 ?_
      refine k_obj W tt (by decide) ?_
      refine kc_of (sz_ex q.2.2) (fun r h' _ c' => ?_)
      obtain ⟨rfl, rfl⟩ := c'
      exact k_rR (G' := G) ⟨_, q, by omega, by omega⟩
    · refine k_kR q.1 ?_
      refine k_obj W tt (by decide) ?_
      refine kc_of (ch_ad W tt ti q.2.1 q.2.2 p2 (by omega)) (fun r h' _ c' => ?_)
      obtain ⟨rfl, f, e0, e1⟩ := c'
      refine k_add (by omega) (by omega) (fun x8 q8 => ?_)
      have i1 : (ts + 1).toInt = ts.toInt + 1 := i_add1 (by omega)
      exact ih _ _ _ _ f.1 ⟨kg_fr (f.2.2.2 a0 (by rw [ta.1, ta.2]; simp)) q.1, e0, e1⟩ (by omega) (by omega) (by omega) (by omega) p4 (by omega)
set_option maxHeartbeats 4000000 in
theorem tz_feed {a1 : Int64} {a3 : Int32} (W : Wf G h) (ta : tG G a0 12 0) (tt : tG G tp 1 1) (ti : tG G it 21 1) (hl : (G it).2.1 = 1200) (q : CH 0 h a0 tp it ts) (h0 : 0 ≤ ts.toInt) (h1 : ts.toInt ≤ 1200) : kJ (fun (r : Int32) h' _ => ∃ ts', CH 0 h' a0 tp it ts' ∧ feedQ ts.toInt a3.toInt r.toInt ts'.toInt) (fX11_feed a0 a1 a3 h) := by
  have L0 : (0 : Int32).toInt = 0 := rfl
  have L1 : (1 : Int32).toInt = 1 := rfl
  have L8 : (8 : Int32).toInt = 8 := rfl
  have L12 : (1200 : Int32).toInt = 1200 := rfl
  have Lm2 : (-2 : Int32).toInt = -2 := rfl
  have Lm4 : (-4 : Int32).toInt = -4 := rfl
  unfold fX11_feed
  refine k_lt (fun c => ?_) (fun c => ?_)
  · exact k_rR (G' := G) ⟨ts, q, Or.inl ⟨by omega, by omega, rfl⟩⟩
  · refine k_le (fun c2 => ?_) (fun c2 => ?_)
    · refine k_if (fun c3 => ?_) (fun c3 => ?_)
      · refine k_kR q.1 ?_
        refine k_obj W tt (by decide) ?_
        refine kc_of (ch_cl (ts := 0) W tt q.2.1) (fun _ h7 _ c7 => ?_)
        refine k_rR (G' := G) ⟨0, CH_cl W ta q c7.1 c7.2.1 c7.2.2, Or.inr (Or.inl ⟨by omega, ?_, by omega⟩)⟩
        rw [c3]; rfl
      · have c3' : a3.toInt ≠ 0 := fun e => c3 (Int32.toInt_inj.mp (by rw [e]; rfl))
        refine k_kR q.1 ?_
        refine k_obj W tt (by decide) ?_
        refine kc_of (sz_ex q.2.2) (fun r h' _ c' => ?_)
        obtain ⟨rfl, rfl⟩ := c'
        have i1 : (r + a3).toInt = r.toInt + a3.toInt := i_add (by omega) (by omega)
        refine k_le (fun c4 => ?_) (fun c4 => ?_)
        · refine k_sub (by omega) (by omega) (fun x4 q4 => ?_)
          obtain ⟨r', h'', G'', e, ts', c1, c2', c3''⟩ := tz_feed_49 (g := r.toInt + a3.toInt) ta tt ti hl sm_fuel a1 x4 h' r W q (by omega) (by omega) (by omega) (by omega) (by omega) (by simp only [sm_fuel_eq]; omega)
          exact ⟨r', h'', G'', e, ts', c1, Or.inr (Or.inr (Or.inr ⟨by omega, by omega, by omega, by omega, by omega⟩))⟩
        · exact k_rR (G' := G) ⟨r, q, Or.inr (Or.inr (Or.inl ⟨by omega, by omega, by omega, by omega, rfl⟩))⟩
    · exact k_rR (G' := G) ⟨ts, q, Or.inl ⟨by omega, by omega, rfl⟩⟩
end TT
